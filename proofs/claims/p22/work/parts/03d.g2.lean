set_option maxRecDepth 20000 in
theorem ggX1_payFor_X1_madeUpPercent : GoodIn wsX1_payFor wsX1_madeUpPercent := goodIn_r _ [15, 16, 10, 17, 18, 19, 14, 20, 21, 22, 23, 24, 25, 2, 26, 27, 28, 29, 30, 31, 32, 33, 34, 35, 36, 37] (by decide +kernel) (by decide +kernel)
set_option maxRecDepth 20000 in
theorem gX1_payFor_X1_madeUpPercent : GoodIn wsX1_payFor (wsV RX1 53 RX1 yX1_madeUpPercent wsX1_madeUpPercent) := goodIn_app (goodIn_of _ (by decide +kernel)) ggX1_payFor_X1_madeUpPercent
set_option maxRecDepth 20000 in
theorem ggX1_madeUpPercent_X1_stepPercent : GoodIn wsX1_madeUpPercent wsX1_stepPercent := goodIn_r _ [7, 2, 14, 15, 16, 17, 18, 19, 20, 21, 22, 23, 24, 25] (by decide +kernel) (by decide +kernel)
set_option maxRecDepth 20000 in
theorem gX1_madeUpPercent_X1_stepPercent : GoodIn wsX1_madeUpPercent (wsV RX1 69 RX1 yX1_stepPercent wsX1_stepPercent) := goodIn_app (goodIn_of _ (by decide +kernel)) ggX1_madeUpPercent_X1_stepPercent
set_option maxRecDepth 20000 in
theorem ggX1_madeUpPercent_X1_hasFilled : GoodIn wsX1_madeUpPercent wsX1_hasFilled := goodIn_r _ [11, 12, 13, 14, 15, 16, 17, 18, 19, 20, 21, 22, 23, 24, 25] (by decide +kernel) (by decide +kernel)
set_option maxRecDepth 20000 in
theorem gX1_madeUpPercent_X1_hasFilled : GoodIn wsX1_madeUpPercent (wsV RX1 73 RX1 yX1_hasFilled wsX1_hasFilled) := goodIn_app (goodIn_of _ (by decide +kernel)) ggX1_madeUpPercent_X1_hasFilled
set_option maxRecDepth 20000 in
theorem ggX2_add_X2_isWithin : GoodIn wsX2_add wsX2_isWithin := goodIn_r _ [10] (by decide +kernel) (by decide +kernel)
set_option maxRecDepth 20000 in
theorem gX2_add_X2_isWithin : GoodIn wsX2_add (va_wsS RX2 30 yX2_isWithin wsX2_isWithin) := goodIn_app (goodIn_of _ (by decide +kernel)) ggX2_add_X2_isWithin
set_option maxRecDepth 20000 in
theorem ggX2_add_X2_requireArgument : GoodIn wsX2_add wsX2_requireArgument := goodIn_ca (goodIn_r _ [13, 14, 15] (by decide +kernel) (by decide +kernel)) (goodIn_sub (fun _ h => List.mem_cons_of_mem _ (List.mem_append_left _ (List.mem_append_right _ h))) (by decide +kernel))
set_option maxRecDepth 20000 in
theorem gX2_add_X2_requireArgument : GoodIn wsX2_add (va_wsS RX2 34 yX2_requireArgument wsX2_requireArgument) := goodIn_app (goodIn_of _ (by decide +kernel)) ggX2_add_X2_requireArgument
set_option maxRecDepth 20000 in
theorem ggX2_add_X2_requireState : GoodIn wsX2_add wsX2_requireState := goodIn_ca (goodIn_r _ [18, 19, 20] (by decide +kernel) (by decide +kernel)) (goodIn_sub (fun _ h => List.mem_cons_of_mem _ (List.mem_append_right _ h)) (by decide +kernel))
set_option maxRecDepth 20000 in
theorem gX2_add_X2_requireState : GoodIn wsX2_add (va_wsS RX2 41 yX2_requireState wsX2_requireState) := goodIn_app (goodIn_of _ (by decide +kernel)) ggX2_add_X2_requireState
set_option maxRecDepth 20000 in
theorem ggX2_add_X1_init : GoodIn wsX2_add wsX1_init := goodIn_r _ [23, 24, 25, 26, 27, 28, 29, 30, 31, 32, 33, 34, 35, 36, 45, 46, 47, 48, 49, 50, 51, 52, 53, 54, 55, 56] (by decide +kernel) (by decide +kernel)
set_option maxRecDepth 20000 in
theorem gX2_add_X1_init : GoodIn wsX2_add (wsX1_init) := ggX2_add_X1_init
set_option maxRecDepth 20000 in
theorem ggX2_notice_X2_workerAt : GoodIn wsX2_notice wsX2_workerAt := goodIn_ca (goodIn_r _ [6, 7, 8, 9, 10, 11, 12, 5, 13, 34, 35, 36, 37, 38, 39, 40, 41] (by decide +kernel) (by decide +kernel)) (goodIn_sub (fun _ h => List.mem_cons_of_mem _ (List.mem_append_left _ (List.mem_append_left _ (List.mem_append_right _ h)))) (by decide +kernel))
set_option maxRecDepth 20000 in
theorem gX2_notice_X2_workerAt : GoodIn wsX2_notice (wsV RX2 47 RX2 yX2_workerAt wsX2_workerAt) := goodIn_app (goodIn_of _ (by decide +kernel)) ggX2_notice_X2_workerAt
set_option maxRecDepth 20000 in
theorem ggX2_notice_X2_isSpan : GoodIn wsX2_notice wsX2_isSpan := goodIn_r _ [16, 11, 12, 5, 13] (by decide +kernel) (by decide +kernel)
set_option maxRecDepth 20000 in
theorem gX2_notice_X2_isSpan : GoodIn wsX2_notice (va_wsS RX2 51 yX2_isSpan wsX2_isSpan) := goodIn_app (goodIn_of _ (by decide +kernel)) ggX2_notice_X2_isSpan
set_option maxRecDepth 20000 in
theorem ggX2_notice_X2_isWithin : GoodIn wsX2_notice wsX2_isWithin := goodIn_r _ [13] (by decide +kernel) (by decide +kernel)
set_option maxRecDepth 20000 in
theorem gX2_notice_X2_isWithin : GoodIn wsX2_notice (va_wsS RX2 30 yX2_isWithin wsX2_isWithin) := goodIn_app (goodIn_of _ (by decide +kernel)) ggX2_notice_X2_isWithin
set_option maxRecDepth 20000 in
theorem ggX2_notice_X2_requireArgument : GoodIn wsX2_notice wsX2_requireArgument := goodIn_ca (goodIn_r _ [19, 20, 21] (by decide +kernel) (by decide +kernel)) (goodIn_sub (fun _ h => List.mem_cons_of_mem _ (List.mem_append_left _ (List.mem_append_right _ h))) (by decide +kernel))
set_option maxRecDepth 20000 in
theorem gX2_notice_X2_requireArgument : GoodIn wsX2_notice (va_wsS RX2 34 yX2_requireArgument wsX2_requireArgument) := goodIn_app (goodIn_of _ (by decide +kernel)) ggX2_notice_X2_requireArgument
set_option maxRecDepth 20000 in
theorem ggX2_notice_X2_requireState : GoodIn wsX2_notice wsX2_requireState := goodIn_ca (goodIn_r _ [24, 25, 26] (by decide +kernel) (by decide +kernel)) (goodIn_sub (fun _ h => List.mem_cons_of_mem _ (List.mem_append_right _ h)) (by decide +kernel))
set_option maxRecDepth 20000 in
theorem gX2_notice_X2_requireState : GoodIn wsX2_notice (va_wsS RX2 41 yX2_requireState wsX2_requireState) := goodIn_app (goodIn_of _ (by decide +kernel)) ggX2_notice_X2_requireState
set_option maxRecDepth 20000 in
theorem ggX2_notice_X1_takeNotice : GoodIn wsX2_notice wsX1_takeNotice := goodIn_r _ [31, 32, 33, 42, 43, 44, 45, 46, 47, 48, 49, 50, 51, 52, 53] (by decide +kernel) (by decide +kernel)
set_option maxRecDepth 20000 in
theorem gX2_notice_X1_takeNotice : GoodIn wsX2_notice (wsV RX2 61 RX1 yX1_takeNotice wsX1_takeNotice) := goodIn_app (goodIn_of _ (by decide +kernel)) ggX2_notice_X1_takeNotice
set_option maxRecDepth 20000 in
theorem ggX2_addCourse_X2_isWithin : GoodIn wsX2_addCourse wsX2_isWithin := goodIn_r _ [9] (by decide +kernel) (by decide +kernel)
set_option maxRecDepth 20000 in
theorem gX2_addCourse_X2_isWithin : GoodIn wsX2_addCourse (va_wsS RX2 30 yX2_isWithin wsX2_isWithin) := goodIn_app (goodIn_of _ (by decide +kernel)) ggX2_addCourse_X2_isWithin
set_option maxRecDepth 20000 in
theorem ggX2_addCourse_X2_isSpan : GoodIn wsX2_addCourse wsX2_isSpan := goodIn_r _ [12, 6, 7, 8, 9] (by decide +kernel) (by decide +kernel)
set_option maxRecDepth 20000 in
theorem gX2_addCourse_X2_isSpan : GoodIn wsX2_addCourse (va_wsS RX2 51 yX2_isSpan wsX2_isSpan) := goodIn_app (goodIn_of _ (by decide +kernel)) ggX2_addCourse_X2_isSpan
set_option maxRecDepth 20000 in
theorem ggX2_addCourse_X2_requireArgument : GoodIn wsX2_addCourse wsX2_requireArgument := goodIn_ca (goodIn_r _ [15, 16, 17] (by decide +kernel) (by decide +kernel)) (goodIn_sub (fun _ h => List.mem_cons_of_mem _ (List.mem_append_left _ (List.mem_append_right _ h))) (by decide +kernel))
set_option maxRecDepth 20000 in
theorem gX2_addCourse_X2_requireArgument : GoodIn wsX2_addCourse (va_wsS RX2 34 yX2_requireArgument wsX2_requireArgument) := goodIn_app (goodIn_of _ (by decide +kernel)) ggX2_addCourse_X2_requireArgument
set_option maxRecDepth 20000 in
theorem ggX2_addCourse_X2_requireState : GoodIn wsX2_addCourse wsX2_requireState := goodIn_ca (goodIn_r _ [20, 21, 22] (by decide +kernel) (by decide +kernel)) (goodIn_sub (fun _ h => List.mem_cons_of_mem _ (List.mem_append_right _ h)) (by decide +kernel))
set_option maxRecDepth 20000 in
theorem gX2_addCourse_X2_requireState : GoodIn wsX2_addCourse (va_wsS RX2 41 yX2_requireState wsX2_requireState) := goodIn_app (goodIn_of _ (by decide +kernel)) ggX2_addCourse_X2_requireState
set_option maxRecDepth 20000 in
theorem ggX2_addCourse_X0_init : GoodIn wsX2_addCourse wsX0_init := goodIn_r _ [25, 26, 27, 28, 29, 30, 31, 32, 41, 42, 43, 44] (by decide +kernel) (by decide +kernel)
set_option maxRecDepth 20000 in
theorem gX2_addCourse_X0_init : GoodIn wsX2_addCourse (wsX0_init) := ggX2_addCourse_X0_init
set_option maxRecDepth 20000 in
theorem ggX2_enrol_X2_workerAt : GoodIn wsX2_enrol wsX2_workerAt := goodIn_ca (goodIn_r _ [6, 7, 8, 9, 10, 11, 12, 5, 13, 39, 40, 41, 42, 43, 44, 45, 46] (by decide +kernel) (by decide +kernel)) (goodIn_sub (fun _ h => List.mem_cons_of_mem _ (List.mem_append_left _ (List.mem_append_right _ h))) (by decide +kernel))
set_option maxRecDepth 20000 in
theorem gX2_enrol_X2_workerAt : GoodIn wsX2_enrol (wsV RX2 47 RX2 yX2_workerAt wsX2_workerAt) := goodIn_app (goodIn_of _ (by decide +kernel)) ggX2_enrol_X2_workerAt
set_option maxRecDepth 20000 in
theorem ggX2_enrol_X2_courseAt : GoodIn wsX2_enrol wsX2_courseAt := goodIn_ca (goodIn_r _ [17, 7, 8, 18, 19, 11, 12, 5, 13, 39, 40, 41, 42, 43, 44, 45, 46] (by decide +kernel) (by decide +kernel)) (goodIn_sub (fun _ h => List.mem_cons_of_mem _ (List.mem_append_left _ (List.mem_append_right _ h))) (by decide +kernel))
set_option maxRecDepth 20000 in
theorem gX2_enrol_X2_courseAt : GoodIn wsX2_enrol (wsV RX2 71 RX2 yX2_courseAt wsX2_courseAt) := goodIn_app (goodIn_of _ (by decide +kernel)) ggX2_enrol_X2_courseAt
set_option maxRecDepth 20000 in
theorem ggX2_enrol_X1_hasNoCourseFrom : GoodIn wsX2_enrol wsX1_hasNoCourseFrom := goodIn_r _ [24, 25, 47, 48, 49, 50, 51, 52, 53, 54, 55, 56, 57, 58] (by decide +kernel) (by decide +kernel)
set_option maxRecDepth 20000 in
theorem gX2_enrol_X1_hasNoCourseFrom : GoodIn wsX2_enrol (wsV RX2 84 RX1 yX1_hasNoCourseFrom wsX1_hasNoCourseFrom) := goodIn_app (goodIn_of _ (by decide +kernel)) ggX2_enrol_X1_hasNoCourseFrom
set_option maxRecDepth 20000 in
theorem ggX2_enrol_X2_requireState : GoodIn wsX2_enrol wsX2_requireState := goodIn_ca (goodIn_r _ [28, 29, 30] (by decide +kernel) (by decide +kernel)) (goodIn_sub (fun _ h => List.mem_cons_of_mem _ (List.mem_append_right _ h)) (by decide +kernel))
set_option maxRecDepth 20000 in
theorem gX2_enrol_X2_requireState : GoodIn wsX2_enrol (va_wsS RX2 41 yX2_requireState wsX2_requireState) := goodIn_app (goodIn_of _ (by decide +kernel)) ggX2_enrol_X2_requireState
set_option maxRecDepth 20000 in
theorem ggX2_enrol_X1_goTo : GoodIn wsX2_enrol wsX1_goTo := goodIn_r _ [34, 25, 35, 36, 37, 38, 47, 48, 49, 50, 51, 52, 53, 54, 55, 56, 57, 58] (by decide +kernel) (by decide +kernel)
set_option maxRecDepth 20000 in
theorem gX2_enrol_X1_goTo : GoodIn wsX2_enrol (wsV RX2 87 RX1 yX1_goTo wsX1_goTo) := goodIn_app (goodIn_of _ (by decide +kernel)) ggX2_enrol_X1_goTo
set_option maxRecDepth 20000 in
theorem ggX2_setFloor_X2_isWithin : GoodIn wsX2_setFloor wsX2_isWithin := goodIn_r _ [5] (by decide +kernel) (by decide +kernel)
set_option maxRecDepth 20000 in
theorem gX2_setFloor_X2_isWithin : GoodIn wsX2_setFloor (va_wsS RX2 30 yX2_isWithin wsX2_isWithin) := goodIn_app (goodIn_of _ (by decide +kernel)) ggX2_setFloor_X2_isWithin
set_option maxRecDepth 20000 in
theorem ggX2_setFloor_X2_requireArgument : GoodIn wsX2_setFloor wsX2_requireArgument := goodIn_ca (goodIn_r _ [8, 9, 10] (by decide +kernel) (by decide +kernel)) (goodIn_sub (fun _ h => List.mem_cons_of_mem _ (List.mem_append_right _ h)) (by decide +kernel))
set_option maxRecDepth 20000 in
theorem gX2_setFloor_X2_requireArgument : GoodIn wsX2_setFloor (va_wsS RX2 34 yX2_requireArgument wsX2_requireArgument) := goodIn_app (goodIn_of _ (by decide +kernel)) ggX2_setFloor_X2_requireArgument
set_option maxRecDepth 20000 in
theorem ggX2_cut_X2_workerAt : GoodIn wsX2_cut wsX2_workerAt := goodIn_ca (goodIn_r _ [5, 6, 7, 8, 9, 10, 11, 4, 12, 30, 31, 32, 33, 34, 35, 36, 37] (by decide +kernel) (by decide +kernel)) (goodIn_sub (fun _ h => List.mem_cons_of_mem _ (List.mem_append_left _ (List.mem_append_right _ h))) (by decide +kernel))
set_option maxRecDepth 20000 in
theorem gX2_cut_X2_workerAt : GoodIn wsX2_cut (wsV RX2 47 RX2 yX2_workerAt wsX2_workerAt) := goodIn_app (goodIn_of _ (by decide +kernel)) ggX2_cut_X2_workerAt
set_option maxRecDepth 20000 in
theorem ggX2_cut_X2_isWithin : GoodIn wsX2_cut wsX2_isWithin := goodIn_r _ [12] (by decide +kernel) (by decide +kernel)
set_option maxRecDepth 20000 in
theorem gX2_cut_X2_isWithin : GoodIn wsX2_cut (va_wsS RX2 30 yX2_isWithin wsX2_isWithin) := goodIn_app (goodIn_of _ (by decide +kernel)) ggX2_cut_X2_isWithin
set_option maxRecDepth 20000 in
theorem ggX2_cut_X2_requireArgument : GoodIn wsX2_cut wsX2_requireArgument := goodIn_ca (goodIn_r _ [15, 16, 17] (by decide +kernel) (by decide +kernel)) (goodIn_sub (fun _ h => List.mem_cons_of_mem _ (List.mem_append_right _ h)) (by decide +kernel))
set_option maxRecDepth 20000 in
theorem gX2_cut_X2_requireArgument : GoodIn wsX2_cut (va_wsS RX2 34 yX2_requireArgument wsX2_requireArgument) := goodIn_app (goodIn_of _ (by decide +kernel)) ggX2_cut_X2_requireArgument
set_option maxRecDepth 20000 in
theorem ggX2_isFilled_X2_workerAt : GoodIn wsX2_isFilled wsX2_workerAt := goodIn_ca (goodIn_r _ [5, 6, 7, 8, 9, 10, 11, 4, 12, 25, 26, 27, 28, 29, 30, 31, 32] (by decide +kernel) (by decide +kernel)) (goodIn_sub (fun _ h => List.mem_cons_of_mem _ (List.mem_append_left _ (List.mem_append_right _ h))) (by decide +kernel))
set_option maxRecDepth 20000 in
theorem gX2_isFilled_X2_workerAt : GoodIn wsX2_isFilled (wsV RX2 47 RX2 yX2_workerAt wsX2_workerAt) := goodIn_app (goodIn_of _ (by decide +kernel)) ggX2_isFilled_X2_workerAt
set_option maxRecDepth 20000 in
theorem ggX2_isFilled_X2_isWithin : GoodIn wsX2_isFilled wsX2_isWithin := goodIn_r _ [12] (by decide +kernel) (by decide +kernel)
set_option maxRecDepth 20000 in
theorem gX2_isFilled_X2_isWithin : GoodIn wsX2_isFilled (va_wsS RX2 30 yX2_isWithin wsX2_isWithin) := goodIn_app (goodIn_of _ (by decide +kernel)) ggX2_isFilled_X2_isWithin
set_option maxRecDepth 20000 in
theorem ggX2_isFilled_X2_requireArgument : GoodIn wsX2_isFilled wsX2_requireArgument := goodIn_ca (goodIn_r _ [15, 16, 17] (by decide +kernel) (by decide +kernel)) (goodIn_sub (fun _ h => List.mem_cons_of_mem _ (List.mem_append_right _ h)) (by decide +kernel))
set_option maxRecDepth 20000 in
theorem gX2_isFilled_X2_requireArgument : GoodIn wsX2_isFilled (va_wsS RX2 34 yX2_requireArgument wsX2_requireArgument) := goodIn_app (goodIn_of _ (by decide +kernel)) ggX2_isFilled_X2_requireArgument
set_option maxRecDepth 20000 in
theorem ggX2_isFilled_X1_hasFilled : GoodIn wsX2_isFilled wsX1_hasFilled := goodIn_r _ [22, 23, 24, 33, 34, 35, 36, 37, 38, 39, 40, 41, 42, 43, 44] (by decide +kernel) (by decide +kernel)
set_option maxRecDepth 20000 in
theorem gX2_isFilled_X1_hasFilled : GoodIn wsX2_isFilled (wsV RX2 95 RX1 yX1_hasFilled wsX1_hasFilled) := goodIn_app (goodIn_of _ (by decide +kernel)) ggX2_isFilled_X1_hasFilled
set_option maxRecDepth 20000 in
theorem ggX2_pass_X2_isWithin : GoodIn wsX2_pass wsX2_isWithin := goodIn_r _ [5] (by decide +kernel) (by decide +kernel)
set_option maxRecDepth 20000 in
theorem gX2_pass_X2_isWithin : GoodIn wsX2_pass (va_wsS RX2 30 yX2_isWithin wsX2_isWithin) := goodIn_app (goodIn_of _ (by decide +kernel)) ggX2_pass_X2_isWithin
set_option maxRecDepth 20000 in
theorem ggX2_pass_X2_requireArgument : GoodIn wsX2_pass wsX2_requireArgument := goodIn_ca (goodIn_r _ [8, 9, 10] (by decide +kernel) (by decide +kernel)) (goodIn_sub (fun _ h => List.mem_cons_of_mem _ (List.mem_append_left _ (List.mem_append_right _ h))) (by decide +kernel))
set_option maxRecDepth 20000 in
theorem gX2_pass_X2_requireArgument : GoodIn wsX2_pass (va_wsS RX2 34 yX2_requireArgument wsX2_requireArgument) := goodIn_app (goodIn_of _ (by decide +kernel)) ggX2_pass_X2_requireArgument
set_option maxRecDepth 20000 in
theorem ggX2_pass_X2_requireState : GoodIn wsX2_pass wsX2_requireState := goodIn_ca (goodIn_r _ [13, 14, 15] (by decide +kernel) (by decide +kernel)) (goodIn_sub (fun _ h => List.mem_cons_of_mem _ (List.mem_append_right _ h)) (by decide +kernel))
set_option maxRecDepth 20000 in
theorem gX2_pass_X2_requireState : GoodIn wsX2_pass (va_wsS RX2 41 yX2_requireState wsX2_requireState) := goodIn_app (goodIn_of _ (by decide +kernel)) ggX2_pass_X2_requireState
set_option maxRecDepth 20000 in
theorem ggX2_pass_X2_payCurrentWeek : GoodIn wsX2_pass wsX2_payCurrentWeek := goodIn_r _ [19, 20, 1, 21, 22, 23, 24, 25, 26, 27, 28, 29, 30, 31, 32, 33, 34, 35, 36, 37, 38, 39, 40, 41, 42, 43, 44, 45, 46, 47, 48, 49, 50, 51, 52, 53, 54, 55, 56, 57, 58, 59, 60, 61, 62, 63, 64, 65, 66, 67, 68, 69, 70] (by decide +kernel) (by decide +kernel)
set_option maxRecDepth 20000 in
theorem gX2_pass_X2_payCurrentWeek : GoodIn wsX2_pass (wsV RX2 99 RX2 yX2_payCurrentWeek wsX2_payCurrentWeek) := goodIn_app (goodIn_of _ (by decide +kernel)) ggX2_pass_X2_payCurrentWeek
set_option maxRecDepth 20000 in
theorem ggX2_paid_X2_workerAt : GoodIn wsX2_paid wsX2_workerAt := goodIn_ca (goodIn_r _ [5, 6, 7, 8, 9, 10, 11, 4, 12, 35, 36, 37, 38, 39, 40, 41, 42] (by decide +kernel) (by decide +kernel)) (goodIn_sub (fun _ h => List.mem_cons_of_mem _ (List.mem_append_left _ (List.mem_append_right _ h))) (by decide +kernel))
set_option maxRecDepth 20000 in
theorem gX2_paid_X2_workerAt : GoodIn wsX2_paid (wsV RX2 47 RX2 yX2_workerAt wsX2_workerAt) := goodIn_app (goodIn_of _ (by decide +kernel)) ggX2_paid_X2_workerAt
set_option maxRecDepth 20000 in
theorem ggX2_paid_X2_hasPassed : GoodIn wsX2_paid wsX2_hasPassed := goodIn_r _ [16, 17, 10, 11, 4, 12, 35, 36, 37, 38, 39, 40, 41, 42] (by decide +kernel) (by decide +kernel)
set_option maxRecDepth 20000 in
theorem gX2_paid_X2_hasPassed : GoodIn wsX2_paid (wsV RX2 103 RX2 yX2_hasPassed wsX2_hasPassed) := goodIn_app (goodIn_of _ (by decide +kernel)) ggX2_paid_X2_hasPassed
set_option maxRecDepth 20000 in
theorem ggX2_paid_X2_requireArgument : GoodIn wsX2_paid wsX2_requireArgument := goodIn_ca (goodIn_r _ [20, 21, 22] (by decide +kernel) (by decide +kernel)) (goodIn_sub (fun _ h => List.mem_cons_of_mem _ (List.mem_append_right _ h)) (by decide +kernel))
set_option maxRecDepth 20000 in
theorem gX2_paid_X2_requireArgument : GoodIn wsX2_paid (va_wsS RX2 34 yX2_requireArgument wsX2_requireArgument) := goodIn_app (goodIn_of _ (by decide +kernel)) ggX2_paid_X2_requireArgument
set_option maxRecDepth 20000 in
theorem ggX2_madeUp_X2_workerAt : GoodIn wsX2_madeUp wsX2_workerAt := goodIn_ca (goodIn_r _ [5, 6, 7, 8, 9, 10, 11, 4, 12, 35, 36, 37, 38, 39, 40, 41, 42] (by decide +kernel) (by decide +kernel)) (goodIn_sub (fun _ h => List.mem_cons_of_mem _ (List.mem_append_left _ (List.mem_append_right _ h))) (by decide +kernel))
set_option maxRecDepth 20000 in
theorem gX2_madeUp_X2_workerAt : GoodIn wsX2_madeUp (wsV RX2 47 RX2 yX2_workerAt wsX2_workerAt) := goodIn_app (goodIn_of _ (by decide +kernel)) ggX2_madeUp_X2_workerAt
set_option maxRecDepth 20000 in
theorem ggX2_madeUp_X2_hasPassed : GoodIn wsX2_madeUp wsX2_hasPassed := goodIn_r _ [16, 17, 10, 11, 4, 12, 35, 36, 37, 38, 39, 40, 41, 42] (by decide +kernel) (by decide +kernel)
set_option maxRecDepth 20000 in
theorem gX2_madeUp_X2_hasPassed : GoodIn wsX2_madeUp (wsV RX2 103 RX2 yX2_hasPassed wsX2_hasPassed) := goodIn_app (goodIn_of _ (by decide +kernel)) ggX2_madeUp_X2_hasPassed
set_option maxRecDepth 20000 in
theorem ggX2_madeUp_X2_requireArgument : GoodIn wsX2_madeUp wsX2_requireArgument := goodIn_ca (goodIn_r _ [20, 21, 22] (by decide +kernel) (by decide +kernel)) (goodIn_sub (fun _ h => List.mem_cons_of_mem _ (List.mem_append_right _ h)) (by decide +kernel))
set_option maxRecDepth 20000 in
theorem gX2_madeUp_X2_requireArgument : GoodIn wsX2_madeUp (va_wsS RX2 34 yX2_requireArgument wsX2_requireArgument) := goodIn_app (goodIn_of _ (by decide +kernel)) ggX2_madeUp_X2_requireArgument
set_option maxRecDepth 20000 in
theorem ggX2_cutWeeks_X2_workerAt : GoodIn wsX2_cutWeeks wsX2_workerAt := goodIn_ca (goodIn_r _ [5, 6, 7, 8, 9, 10, 11, 4, 12, 25, 26, 27, 28, 29, 30, 31, 32] (by decide +kernel) (by decide +kernel)) (goodIn_sub (fun _ h => List.mem_cons_of_mem _ (List.mem_append_right _ h)) (by decide +kernel))
set_option maxRecDepth 20000 in
theorem gX2_cutWeeks_X2_workerAt : GoodIn wsX2_cutWeeks (wsV RX2 47 RX2 yX2_workerAt wsX2_workerAt) := goodIn_app (goodIn_of _ (by decide +kernel)) ggX2_cutWeeks_X2_workerAt
set_option maxRecDepth 20000 in
theorem ggX2_door_X2_workerAt : GoodIn wsX2_door wsX2_workerAt := goodIn_ca (goodIn_r _ [6, 7, 8, 9, 10, 11, 12, 5, 13, 29, 30, 31, 32, 33, 34, 35, 36] (by decide +kernel) (by decide +kernel)) (goodIn_sub (fun _ h => List.mem_cons_of_mem _ (List.mem_append_left _ (List.mem_append_left _ (List.mem_append_right _ h)))) (by decide +kernel))
set_option maxRecDepth 20000 in
theorem gX2_door_X2_workerAt : GoodIn wsX2_door (wsV RX2 47 RX2 yX2_workerAt wsX2_workerAt) := goodIn_app (goodIn_of _ (by decide +kernel)) ggX2_door_X2_workerAt
set_option maxRecDepth 20000 in
theorem ggX2_door_X2_hasPassed : GoodIn wsX2_door wsX2_hasPassed := goodIn_r _ [17, 18, 11, 12, 5, 13, 29, 30, 31, 32, 33, 34, 35, 36] (by decide +kernel) (by decide +kernel)
set_option maxRecDepth 20000 in
theorem gX2_door_X2_hasPassed : GoodIn wsX2_door (wsV RX2 103 RX2 yX2_hasPassed wsX2_hasPassed) := goodIn_app (goodIn_of _ (by decide +kernel)) ggX2_door_X2_hasPassed
set_option maxRecDepth 20000 in
theorem ggX2_door_X2_isWithin : GoodIn wsX2_door wsX2_isWithin := goodIn_r _ [13] (by decide +kernel) (by decide +kernel)
set_option maxRecDepth 20000 in
theorem gX2_door_X2_isWithin : GoodIn wsX2_door (va_wsS RX2 30 yX2_isWithin wsX2_isWithin) := goodIn_app (goodIn_of _ (by decide +kernel)) ggX2_door_X2_isWithin
set_option maxRecDepth 20000 in
theorem ggX2_door_X2_requireArgument : GoodIn wsX2_door wsX2_requireArgument := goodIn_ca (goodIn_r _ [21, 22, 23] (by decide +kernel) (by decide +kernel)) (goodIn_sub (fun _ h => List.mem_cons_of_mem _ (List.mem_append_left _ (List.mem_append_right _ h))) (by decide +kernel))
set_option maxRecDepth 20000 in
theorem gX2_door_X2_requireArgument : GoodIn wsX2_door (va_wsS RX2 34 yX2_requireArgument wsX2_requireArgument) := goodIn_app (goodIn_of _ (by decide +kernel)) ggX2_door_X2_requireArgument
set_option maxRecDepth 20000 in
theorem ggX2_door_X2_requireState : GoodIn wsX2_door wsX2_requireState := goodIn_ca (goodIn_r _ [26, 27, 28] (by decide +kernel) (by decide +kernel)) (goodIn_sub (fun _ h => List.mem_cons_of_mem _ (List.mem_append_right _ h)) (by decide +kernel))
set_option maxRecDepth 20000 in
theorem gX2_door_X2_requireState : GoodIn wsX2_door (va_wsS RX2 41 yX2_requireState wsX2_requireState) := goodIn_app (goodIn_of _ (by decide +kernel)) ggX2_door_X2_requireState
set_option maxRecDepth 20000 in
theorem ggX2_mail_X2_workerAt : GoodIn wsX2_mail wsX2_workerAt := goodIn_ca (goodIn_r _ [6, 7, 8, 9, 10, 11, 12, 5, 13, 29, 30, 31, 32, 33, 34, 35, 36] (by decide +kernel) (by decide +kernel)) (goodIn_sub (fun _ h => List.mem_cons_of_mem _ (List.mem_append_left _ (List.mem_append_left _ (List.mem_append_right _ h)))) (by decide +kernel))
set_option maxRecDepth 20000 in
theorem gX2_mail_X2_workerAt : GoodIn wsX2_mail (wsV RX2 47 RX2 yX2_workerAt wsX2_workerAt) := goodIn_app (goodIn_of _ (by decide +kernel)) ggX2_mail_X2_workerAt
set_option maxRecDepth 20000 in
theorem ggX2_mail_X2_hasPassed : GoodIn wsX2_mail wsX2_hasPassed := goodIn_r _ [17, 18, 11, 12, 5, 13, 29, 30, 31, 32, 33, 34, 35, 36] (by decide +kernel) (by decide +kernel)
set_option maxRecDepth 20000 in
theorem gX2_mail_X2_hasPassed : GoodIn wsX2_mail (wsV RX2 103 RX2 yX2_hasPassed wsX2_hasPassed) := goodIn_app (goodIn_of _ (by decide +kernel)) ggX2_mail_X2_hasPassed
set_option maxRecDepth 20000 in
theorem ggX2_mail_X2_requireArgument : GoodIn wsX2_mail wsX2_requireArgument := goodIn_ca (goodIn_r _ [21, 22, 23] (by decide +kernel) (by decide +kernel)) (goodIn_sub (fun _ h => List.mem_cons_of_mem _ (List.mem_append_left _ (List.mem_append_right _ h))) (by decide +kernel))
set_option maxRecDepth 20000 in
theorem gX2_mail_X2_requireArgument : GoodIn wsX2_mail (va_wsS RX2 34 yX2_requireArgument wsX2_requireArgument) := goodIn_app (goodIn_of _ (by decide +kernel)) ggX2_mail_X2_requireArgument
set_option maxRecDepth 20000 in
theorem ggX2_mail_X2_requireState : GoodIn wsX2_mail wsX2_requireState := goodIn_ca (goodIn_r _ [26, 27, 28] (by decide +kernel) (by decide +kernel)) (goodIn_sub (fun _ h => List.mem_cons_of_mem _ (List.mem_append_right _ h)) (by decide +kernel))
set_option maxRecDepth 20000 in
theorem gX2_mail_X2_requireState : GoodIn wsX2_mail (va_wsS RX2 41 yX2_requireState wsX2_requireState) := goodIn_app (goodIn_of _ (by decide +kernel)) ggX2_mail_X2_requireState
set_option maxRecDepth 20000 in
theorem ggX2_check_X2_hasPassed : GoodIn wsX2_check wsX2_hasPassed := goodIn_r _ [7, 8, 9, 10, 6, 11, 35, 36, 37, 38, 39, 40, 41, 42] (by decide +kernel) (by decide +kernel)
set_option maxRecDepth 20000 in
theorem gX2_check_X2_hasPassed : GoodIn wsX2_check (wsV RX2 103 RX2 yX2_hasPassed wsX2_hasPassed) := goodIn_app (goodIn_of _ (by decide +kernel)) ggX2_check_X2_hasPassed
set_option maxRecDepth 20000 in
theorem ggX2_check_X2_requireArgument : GoodIn wsX2_check wsX2_requireArgument := goodIn_ca (goodIn_r _ [14, 15, 16] (by decide +kernel) (by decide +kernel)) (goodIn_sub (fun _ h => List.mem_cons_of_mem _ (List.mem_append_left _ (List.mem_append_right _ h))) (by decide +kernel))
set_option maxRecDepth 20000 in
theorem gX2_check_X2_requireArgument : GoodIn wsX2_check (va_wsS RX2 34 yX2_requireArgument wsX2_requireArgument) := goodIn_app (goodIn_of _ (by decide +kernel)) ggX2_check_X2_requireArgument
set_option maxRecDepth 20000 in
theorem ggX2_check_X2_requireState : GoodIn wsX2_check wsX2_requireState := goodIn_ca (goodIn_r _ [19, 20, 21] (by decide +kernel) (by decide +kernel)) (goodIn_sub (fun _ h => List.mem_cons_of_mem _ (List.mem_append_right _ h)) (by decide +kernel))
set_option maxRecDepth 20000 in
theorem gX2_check_X2_requireState : GoodIn wsX2_check (va_wsS RX2 41 yX2_requireState wsX2_requireState) := goodIn_app (goodIn_of _ (by decide +kernel)) ggX2_check_X2_requireState
set_option maxRecDepth 20000 in
theorem ggX2_check_X1_hasWorkedTooMuch : GoodIn wsX2_check wsX1_hasWorkedTooMuch := goodIn_r _ [26, 27, 28, 29, 43, 44, 45, 46, 47, 48, 49, 50, 51, 52, 53, 54] (by decide +kernel) (by decide +kernel)
set_option maxRecDepth 20000 in
theorem gX2_check_X1_hasWorkedTooMuch : GoodIn wsX2_check (wsV RX2 121 RX1 yX1_hasWorkedTooMuch wsX1_hasWorkedTooMuch) := goodIn_app (goodIn_of _ (by decide +kernel)) ggX2_check_X1_hasWorkedTooMuch
set_option maxRecDepth 20000 in
theorem ggX2_check_X2_chargeBack : GoodIn wsX2_check wsX2_chargeBack := goodIn_r _ [33, 34, 43, 44, 45, 46, 47, 48, 49, 50, 51, 52, 53, 54, 35, 36, 37, 38, 39, 40, 41, 42] (by decide +kernel) (by decide +kernel)
set_option maxRecDepth 20000 in
theorem gX2_check_X2_chargeBack : GoodIn wsX2_check (wsV RX2 124 RX2 yX2_chargeBack wsX2_chargeBack) := goodIn_app (goodIn_of _ (by decide +kernel)) ggX2_check_X2_chargeBack
set_option maxRecDepth 20000 in
theorem ggX2_owes_X2_workerAt : GoodIn wsX2_owes wsX2_workerAt := goodIn_ca (goodIn_r _ [5, 6, 7, 8, 9, 10, 11, 4, 12, 25, 26, 27, 28, 29, 30, 31, 32] (by decide +kernel) (by decide +kernel)) (goodIn_sub (fun _ h => List.mem_cons_of_mem _ (List.mem_append_right _ h)) (by decide +kernel))
set_option maxRecDepth 20000 in
theorem gX2_owes_X2_workerAt : GoodIn wsX2_owes (wsV RX2 47 RX2 yX2_workerAt wsX2_workerAt) := goodIn_app (goodIn_of _ (by decide +kernel)) ggX2_owes_X2_workerAt
set_option maxRecDepth 20000 in
theorem ggX2_net_X2_workerAt : GoodIn wsX2_net wsX2_workerAt := goodIn_ca (goodIn_r _ [5, 6, 7, 8, 9, 10, 11, 4, 12, 25, 26, 27, 28, 29, 30, 31, 32] (by decide +kernel) (by decide +kernel)) (goodIn_sub (fun _ h => List.mem_cons_of_mem _ (List.mem_append_right _ h)) (by decide +kernel))
set_option maxRecDepth 20000 in
theorem gX2_net_X2_workerAt : GoodIn wsX2_net (wsV RX2 47 RX2 yX2_workerAt wsX2_workerAt) := goodIn_app (goodIn_of _ (by decide +kernel)) ggX2_net_X2_workerAt
set_option maxRecDepth 20000 in
theorem ggX2_payCurrentWeek_X1_payFor : GoodIn wsX2_payCurrentWeek wsX1_payFor := goodIn_r _ [8, 9, 10, 11, 12, 13, 14, 15, 16, 17, 18, 19, 20, 21, 7, 22, 23, 24, 25, 26, 27, 28, 29, 30, 31, 32, 41, 42, 43, 44, 45, 46, 47, 48, 49, 50, 51, 52] (by decide +kernel) (by decide +kernel)
set_option maxRecDepth 20000 in
theorem gX2_payCurrentWeek_X1_payFor : GoodIn wsX2_payCurrentWeek (wsV RX2 137 RX1 yX1_payFor wsX1_payFor) := goodIn_app (goodIn_of _ (by decide +kernel)) ggX2_payCurrentWeek_X1_payFor
set_option maxRecDepth 20000 in
theorem ggX2_workerAt_X2_isWithin : GoodIn wsX2_workerAt wsX2_isWithin := goodIn_r _ [8] (by decide +kernel) (by decide +kernel)
set_option maxRecDepth 20000 in
theorem gX2_workerAt_X2_isWithin : GoodIn wsX2_workerAt (va_wsS RX2 30 yX2_isWithin wsX2_isWithin) := goodIn_app (goodIn_of _ (by decide +kernel)) ggX2_workerAt_X2_isWithin
set_option maxRecDepth 20000 in
theorem ggX2_courseAt_X2_isWithin : GoodIn wsX2_courseAt wsX2_isWithin := goodIn_r _ [8] (by decide +kernel) (by decide +kernel)
set_option maxRecDepth 20000 in
theorem gX2_courseAt_X2_isWithin : GoodIn wsX2_courseAt (va_wsS RX2 30 yX2_isWithin wsX2_isWithin) := goodIn_app (goodIn_of _ (by decide +kernel)) ggX2_courseAt_X2_isWithin
set_option maxRecDepth 20000 in
theorem ggX2_hasPassed_X2_isWithin : GoodIn wsX2_hasPassed wsX2_isWithin := goodIn_r _ [5] (by decide +kernel) (by decide +kernel)
set_option maxRecDepth 20000 in
theorem gX2_hasPassed_X2_isWithin : GoodIn wsX2_hasPassed (va_wsS RX2 30 yX2_isWithin wsX2_isWithin) := goodIn_app (goodIn_of _ (by decide +kernel)) ggX2_hasPassed_X2_isWithin
set_option maxRecDepth 20000 in
theorem ggX2_isSpan_X2_isWithin : GoodIn wsX2_isSpan wsX2_isWithin := goodIn_r _ [4] (by decide +kernel) (by decide +kernel)
set_option maxRecDepth 20000 in
theorem gX2_isSpan_X2_isWithin : GoodIn wsX2_isSpan (va_wsS RX2 30 yX2_isWithin wsX2_isWithin) := goodIn_app (goodIn_of _ (by decide +kernel)) ggX2_isSpan_X2_isWithin
