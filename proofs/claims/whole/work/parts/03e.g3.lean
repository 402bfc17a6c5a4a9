set_option maxRecDepth 20000 in
theorem ggX3_add_X3_in : GoodIn wsX3_add wsX3_in := goodIn_r _ [8] (by decide +kernel) (by decide +kernel)
set_option maxRecDepth 20000 in
theorem gX3_add_X3_in : GoodIn wsX3_add (va_wsS RX3 82 yX3_in wsX3_in) := goodIn_app (goodIn_of _ (by decide +kernel)) ggX3_add_X3_in
set_option maxRecDepth 20000 in
theorem ggX3_add_X3_asks : GoodIn wsX3_add wsX3_asks := goodIn_r _ [12, 13, 18, 19, 20, 21, 22, 23, 24, 25, 26, 27, 28, 29, 30, 31, 32, 33, 34, 35, 36, 37, 38, 39, 40, 41, 42] (by decide +kernel) (by decide +kernel)
set_option maxRecDepth 20000 in
theorem gX3_add_X3_asks : GoodIn wsX3_add (wsV RX3 86 RX3 yX3_asks wsX3_asks) := goodIn_app (goodIn_of _ (by decide +kernel)) ggX3_add_X3_asks
set_option maxRecDepth 20000 in
theorem ggX3_add_X3_fails : GoodIn wsX3_add wsX3_fails := goodIn_r _ [17, 13, 18, 19, 20, 21, 22, 23, 24, 25, 26, 27, 28, 29, 30, 31, 32, 33, 34, 35, 36, 37, 38, 39, 40, 41, 42] (by decide +kernel) (by decide +kernel)
set_option maxRecDepth 20000 in
theorem gX3_add_X3_fails : GoodIn wsX3_add (wsV RX3 90 RX3 yX3_fails wsX3_fails) := goodIn_app (goodIn_of _ (by decide +kernel)) ggX3_add_X3_fails
set_option maxRecDepth 20000 in
theorem ggX3_notice_X3_isWorker : GoodIn wsX3_notice wsX3_isWorker := goodIn_r _ [10, 11, 24, 25, 26, 27, 28, 29, 30, 31, 32, 33, 34, 35, 36, 37, 38, 39, 40, 41, 42, 43, 44, 45, 46, 47, 48] (by decide +kernel) (by decide +kernel)
set_option maxRecDepth 20000 in
theorem gX3_notice_X3_isWorker : GoodIn wsX3_notice (wsV RX3 94 RX3 yX3_isWorker wsX3_isWorker) := goodIn_app (goodIn_of _ (by decide +kernel)) ggX3_notice_X3_isWorker
set_option maxRecDepth 20000 in
theorem ggX3_notice_X3_asks : GoodIn wsX3_notice wsX3_asks := goodIn_r _ [15, 16, 24, 25, 26, 27, 28, 29, 30, 31, 32, 33, 34, 35, 36, 37, 38, 39, 40, 41, 42, 43, 44, 45, 46, 47, 48] (by decide +kernel) (by decide +kernel)
set_option maxRecDepth 20000 in
theorem gX3_notice_X3_asks : GoodIn wsX3_notice (wsV RX3 86 RX3 yX3_asks wsX3_asks) := goodIn_app (goodIn_of _ (by decide +kernel)) ggX3_notice_X3_asks
set_option maxRecDepth 20000 in
theorem ggX3_notice_X3_in : GoodIn wsX3_notice wsX3_in := goodIn_r _ [19] (by decide +kernel) (by decide +kernel)
set_option maxRecDepth 20000 in
theorem gX3_notice_X3_in : GoodIn wsX3_notice (va_wsS RX3 82 yX3_in wsX3_in) := goodIn_app (goodIn_of _ (by decide +kernel)) ggX3_notice_X3_in
set_option maxRecDepth 20000 in
theorem ggX3_notice_X3_fails : GoodIn wsX3_notice wsX3_fails := goodIn_r _ [23, 16, 24, 25, 26, 27, 28, 29, 30, 31, 32, 33, 34, 35, 36, 37, 38, 39, 40, 41, 42, 43, 44, 45, 46, 47, 48] (by decide +kernel) (by decide +kernel)
set_option maxRecDepth 20000 in
theorem gX3_notice_X3_fails : GoodIn wsX3_notice (wsV RX3 90 RX3 yX3_fails wsX3_fails) := goodIn_app (goodIn_of _ (by decide +kernel)) ggX3_notice_X3_fails
set_option maxRecDepth 20000 in
theorem ggX3_addCourse_X3_in : GoodIn wsX3_addCourse wsX3_in := goodIn_r _ [9] (by decide +kernel) (by decide +kernel)
set_option maxRecDepth 20000 in
theorem gX3_addCourse_X3_in : GoodIn wsX3_addCourse (va_wsS RX3 82 yX3_in wsX3_in) := goodIn_app (goodIn_of _ (by decide +kernel)) ggX3_addCourse_X3_in
set_option maxRecDepth 20000 in
theorem ggX3_addCourse_X3_asks : GoodIn wsX3_addCourse wsX3_asks := goodIn_r _ [13, 14, 19, 20, 21, 22, 23, 24, 25, 26, 27, 28, 29, 30, 31, 32, 33, 34, 35, 36, 37, 38, 39, 40, 41, 42, 43] (by decide +kernel) (by decide +kernel)
set_option maxRecDepth 20000 in
theorem gX3_addCourse_X3_asks : GoodIn wsX3_addCourse (wsV RX3 86 RX3 yX3_asks wsX3_asks) := goodIn_app (goodIn_of _ (by decide +kernel)) ggX3_addCourse_X3_asks
set_option maxRecDepth 20000 in
theorem ggX3_addCourse_X3_fails : GoodIn wsX3_addCourse wsX3_fails := goodIn_r _ [18, 14, 19, 20, 21, 22, 23, 24, 25, 26, 27, 28, 29, 30, 31, 32, 33, 34, 35, 36, 37, 38, 39, 40, 41, 42, 43] (by decide +kernel) (by decide +kernel)
set_option maxRecDepth 20000 in
theorem gX3_addCourse_X3_fails : GoodIn wsX3_addCourse (wsV RX3 90 RX3 yX3_fails wsX3_fails) := goodIn_app (goodIn_of _ (by decide +kernel)) ggX3_addCourse_X3_fails
set_option maxRecDepth 20000 in
theorem ggX3_enrol_X3_isWorker : GoodIn wsX3_enrol wsX3_isWorker := goodIn_r _ [9, 10, 30, 31, 32, 33, 34, 35, 36, 37, 38, 39, 40, 41, 42, 43, 44, 45, 46, 47, 48, 49, 50, 51, 52, 53, 54] (by decide +kernel) (by decide +kernel)
set_option maxRecDepth 20000 in
theorem gX3_enrol_X3_isWorker : GoodIn wsX3_enrol (wsV RX3 94 RX3 yX3_isWorker wsX3_isWorker) := goodIn_app (goodIn_of _ (by decide +kernel)) ggX3_enrol_X3_isWorker
set_option maxRecDepth 20000 in
theorem ggX3_enrol_X3_isCourse : GoodIn wsX3_enrol wsX3_isCourse := goodIn_r _ [14, 15, 30, 31, 32, 33, 34, 35, 36, 37, 38, 39, 40, 41, 42, 43, 44, 45, 46, 47, 48, 49, 50, 51, 52, 53, 54] (by decide +kernel) (by decide +kernel)
set_option maxRecDepth 20000 in
theorem gX3_enrol_X3_isCourse : GoodIn wsX3_enrol (wsV RX3 101 RX3 yX3_isCourse wsX3_isCourse) := goodIn_app (goodIn_of _ (by decide +kernel)) ggX3_enrol_X3_isCourse
set_option maxRecDepth 20000 in
theorem ggX3_enrol_X3_asks : GoodIn wsX3_enrol wsX3_asks := goodIn_r _ [19, 20, 30, 31, 32, 33, 34, 35, 36, 37, 38, 39, 40, 41, 42, 43, 44, 45, 46, 47, 48, 49, 50, 51, 52, 53, 54] (by decide +kernel) (by decide +kernel)
set_option maxRecDepth 20000 in
theorem gX3_enrol_X3_asks : GoodIn wsX3_enrol (wsV RX3 86 RX3 yX3_asks wsX3_asks) := goodIn_app (goodIn_of _ (by decide +kernel)) ggX3_enrol_X3_asks
set_option maxRecDepth 20000 in
theorem ggX3_enrol_X3_meets : GoodIn wsX3_enrol wsX3_meets := goodIn_r _ [24, 15, 4, 25, 2, 30, 31, 32, 33, 34, 35, 36, 37, 38, 39, 40, 41, 42, 43, 44, 45, 46, 47, 48, 49, 50, 51, 52, 53, 54] (by decide +kernel) (by decide +kernel)
set_option maxRecDepth 20000 in
theorem gX3_enrol_X3_meets : GoodIn wsX3_enrol (wsV RX3 104 RX3 yX3_meets wsX3_meets) := goodIn_app (goodIn_of _ (by decide +kernel)) ggX3_enrol_X3_meets
set_option maxRecDepth 20000 in
theorem ggX3_enrol_X3_fails : GoodIn wsX3_enrol wsX3_fails := goodIn_r _ [29, 20, 30, 31, 32, 33, 34, 35, 36, 37, 38, 39, 40, 41, 42, 43, 44, 45, 46, 47, 48, 49, 50, 51, 52, 53, 54] (by decide +kernel) (by decide +kernel)
set_option maxRecDepth 20000 in
theorem gX3_enrol_X3_fails : GoodIn wsX3_enrol (wsV RX3 90 RX3 yX3_fails wsX3_fails) := goodIn_app (goodIn_of _ (by decide +kernel)) ggX3_enrol_X3_fails
set_option maxRecDepth 20000 in
theorem ggX3_setFloor_X3_in : GoodIn wsX3_setFloor wsX3_in := goodIn_r _ [5] (by decide +kernel) (by decide +kernel)
set_option maxRecDepth 20000 in
theorem gX3_setFloor_X3_in : GoodIn wsX3_setFloor (va_wsS RX3 82 yX3_in wsX3_in) := goodIn_app (goodIn_of _ (by decide +kernel)) ggX3_setFloor_X3_in
set_option maxRecDepth 20000 in
theorem ggX3_setFloor_X3_asks : GoodIn wsX3_setFloor wsX3_asks := goodIn_r _ [9, 10, 11, 12, 13, 14, 15, 16, 17, 18, 19, 20, 21, 22, 23, 24, 25, 26, 27, 28, 29, 30, 31, 32, 33, 34, 35] (by decide +kernel) (by decide +kernel)
set_option maxRecDepth 20000 in
theorem gX3_setFloor_X3_asks : GoodIn wsX3_setFloor (wsV RX3 86 RX3 yX3_asks wsX3_asks) := goodIn_app (goodIn_of _ (by decide +kernel)) ggX3_setFloor_X3_asks
set_option maxRecDepth 20000 in
theorem ggX3_cut_X3_isWorker : GoodIn wsX3_cut wsX3_isWorker := goodIn_r _ [5, 6, 27, 28, 29, 30, 31, 32, 33, 34, 35, 36, 37, 38, 39, 40, 41, 42, 43, 44, 45, 46, 47, 48, 49, 50, 51] (by decide +kernel) (by decide +kernel)
set_option maxRecDepth 20000 in
theorem gX3_cut_X3_isWorker : GoodIn wsX3_cut (wsV RX3 94 RX3 yX3_isWorker wsX3_isWorker) := goodIn_app (goodIn_of _ (by decide +kernel)) ggX3_cut_X3_isWorker
set_option maxRecDepth 20000 in
theorem ggX3_cut_X3_asks : GoodIn wsX3_cut wsX3_asks := goodIn_r _ [10, 11, 27, 28, 29, 30, 31, 32, 33, 34, 35, 36, 37, 38, 39, 40, 41, 42, 43, 44, 45, 46, 47, 48, 49, 50, 51] (by decide +kernel) (by decide +kernel)
set_option maxRecDepth 20000 in
theorem gX3_cut_X3_asks : GoodIn wsX3_cut (wsV RX3 86 RX3 yX3_asks wsX3_asks) := goodIn_app (goodIn_of _ (by decide +kernel)) ggX3_cut_X3_asks
set_option maxRecDepth 20000 in
theorem ggX3_cut_X3_in : GoodIn wsX3_cut wsX3_in := goodIn_r _ [14] (by decide +kernel) (by decide +kernel)
set_option maxRecDepth 20000 in
theorem gX3_cut_X3_in : GoodIn wsX3_cut (va_wsS RX3 82 yX3_in wsX3_in) := goodIn_app (goodIn_of _ (by decide +kernel)) ggX3_cut_X3_in
set_option maxRecDepth 20000 in
theorem ggX3_cut_X3_cutOf : GoodIn wsX3_cut wsX3_cutOf := goodIn_r _ [18, 19, 20, 21, 22, 27, 28, 29, 30, 31, 32, 33, 34, 35, 36, 37, 38, 39, 40, 41, 42, 43, 44, 45, 46, 47, 48, 49, 50, 51] (by decide +kernel) (by decide +kernel)
set_option maxRecDepth 20000 in
theorem gX3_cut_X3_cutOf : GoodIn wsX3_cut (wsV RX3 108 RX3 yX3_cutOf wsX3_cutOf) := goodIn_app (goodIn_of _ (by decide +kernel)) ggX3_cut_X3_cutOf
set_option maxRecDepth 20000 in
theorem ggX3_cut_X3_fails : GoodIn wsX3_cut wsX3_fails := goodIn_r _ [26, 11, 27, 28, 29, 30, 31, 32, 33, 34, 35, 36, 37, 38, 39, 40, 41, 42, 43, 44, 45, 46, 47, 48, 49, 50, 51] (by decide +kernel) (by decide +kernel)
set_option maxRecDepth 20000 in
theorem gX3_cut_X3_fails : GoodIn wsX3_cut (wsV RX3 90 RX3 yX3_fails wsX3_fails) := goodIn_app (goodIn_of _ (by decide +kernel)) ggX3_cut_X3_fails
set_option maxRecDepth 20000 in
theorem ggX3_fills_X3_cutOf : GoodIn wsX3_fills wsX3_cutOf := goodIn_r _ [10, 11, 12, 13, 14, 15, 16, 17, 18, 19, 20, 21, 22, 23, 24, 25, 26, 27, 28, 29, 30, 31, 32, 33, 34, 35, 36, 37, 38, 39] (by decide +kernel) (by decide +kernel)
set_option maxRecDepth 20000 in
theorem gX3_fills_X3_cutOf : GoodIn wsX3_fills (wsV RX3 108 RX3 yX3_cutOf wsX3_cutOf) := goodIn_app (goodIn_of _ (by decide +kernel)) ggX3_fills_X3_cutOf
set_option maxRecDepth 20000 in
theorem ggX3_isFilled_X3_isWorker : GoodIn wsX3_isFilled wsX3_isWorker := goodIn_r _ [5, 6, 36, 37, 38, 39, 40, 41, 42, 43, 44, 45, 46, 47, 48, 49, 50, 51, 52, 53, 54, 55, 56, 57, 58, 59, 60] (by decide +kernel) (by decide +kernel)
set_option maxRecDepth 20000 in
theorem gX3_isFilled_X3_isWorker : GoodIn wsX3_isFilled (wsV RX3 94 RX3 yX3_isWorker wsX3_isWorker) := goodIn_app (goodIn_of _ (by decide +kernel)) ggX3_isFilled_X3_isWorker
set_option maxRecDepth 20000 in
theorem ggX3_isFilled_X3_asks : GoodIn wsX3_isFilled wsX3_asks := goodIn_r _ [10, 11, 36, 37, 38, 39, 40, 41, 42, 43, 44, 45, 46, 47, 48, 49, 50, 51, 52, 53, 54, 55, 56, 57, 58, 59, 60] (by decide +kernel) (by decide +kernel)
set_option maxRecDepth 20000 in
theorem gX3_isFilled_X3_asks : GoodIn wsX3_isFilled (wsV RX3 86 RX3 yX3_asks wsX3_asks) := goodIn_app (goodIn_of _ (by decide +kernel)) ggX3_isFilled_X3_asks
set_option maxRecDepth 20000 in
theorem ggX3_isFilled_X3_in : GoodIn wsX3_isFilled wsX3_in := goodIn_r _ [14] (by decide +kernel) (by decide +kernel)
set_option maxRecDepth 20000 in
theorem gX3_isFilled_X3_in : GoodIn wsX3_isFilled (va_wsS RX3 82 yX3_in wsX3_in) := goodIn_app (goodIn_of _ (by decide +kernel)) ggX3_isFilled_X3_in
set_option maxRecDepth 20000 in
theorem ggX3_isFilled_X3_fails : GoodIn wsX3_isFilled wsX3_fails := goodIn_r _ [18, 11, 36, 37, 38, 39, 40, 41, 42, 43, 44, 45, 46, 47, 48, 49, 50, 51, 52, 53, 54, 55, 56, 57, 58, 59, 60] (by decide +kernel) (by decide +kernel)
set_option maxRecDepth 20000 in
theorem gX3_isFilled_X3_fails : GoodIn wsX3_isFilled (wsV RX3 90 RX3 yX3_fails wsX3_fails) := goodIn_app (goodIn_of _ (by decide +kernel)) ggX3_isFilled_X3_fails
set_option maxRecDepth 20000 in
theorem ggX3_isFilled_X3_fills : GoodIn wsX3_isFilled wsX3_fills := goodIn_r _ [22, 23, 24, 25, 26, 27, 28, 29, 30, 4, 31, 32, 33, 34, 35, 36, 37, 38, 39, 40, 41, 42, 43, 44, 45, 46, 47, 48, 49, 50, 51, 52, 53, 54, 55, 56, 57, 58, 59, 60] (by decide +kernel) (by decide +kernel)
set_option maxRecDepth 20000 in
theorem gX3_isFilled_X3_fills : GoodIn wsX3_isFilled (wsV RX3 112 RX3 yX3_fills wsX3_fills) := goodIn_app (goodIn_of _ (by decide +kernel)) ggX3_isFilled_X3_fills
set_option maxRecDepth 20000 in
theorem ggX3_percent_X3_fills : GoodIn wsX3_percent wsX3_fills := goodIn_r _ [8, 9, 10, 11, 12, 13, 14, 15, 16, 7, 17, 18, 19, 20, 21, 22, 23, 24, 25, 26, 27, 28, 29, 30, 31, 32, 33, 34, 35, 36, 37, 38, 39, 40, 41, 42, 43, 44, 45, 46] (by decide +kernel) (by decide +kernel)
set_option maxRecDepth 20000 in
theorem gX3_percent_X3_fills : GoodIn wsX3_percent (wsV RX3 112 RX3 yX3_fills wsX3_fills) := goodIn_app (goodIn_of _ (by decide +kernel)) ggX3_percent_X3_fills
set_option maxRecDepth 20000 in
theorem ggX3_pays_X3_cutOf : GoodIn wsX3_pays wsX3_cutOf := goodIn_r _ [12, 13, 14, 15, 16, 31, 32, 33, 34, 35, 36, 37, 38, 39, 40, 41, 42, 43, 44, 45, 46, 47, 48, 49, 50, 51, 52, 53, 54, 55] (by decide +kernel) (by decide +kernel)
set_option maxRecDepth 20000 in
theorem gX3_pays_X3_cutOf : GoodIn wsX3_pays (wsV RX3 108 RX3 yX3_cutOf wsX3_cutOf) := goodIn_app (goodIn_of _ (by decide +kernel)) ggX3_pays_X3_cutOf
set_option maxRecDepth 20000 in
theorem ggX3_pays_X3_percent : GoodIn wsX3_pays wsX3_percent := goodIn_r _ [20, 1, 7, 21, 22, 23, 24, 11, 25, 26, 27, 28, 29, 30, 8, 9, 10, 12, 13, 14, 15, 16, 31, 32, 33, 34, 35, 36, 37, 38, 39, 40, 41, 42, 43, 44, 45, 46, 47, 48, 49, 50, 51, 52, 53, 54, 55] (by decide +kernel) (by decide +kernel)
set_option maxRecDepth 20000 in
theorem gX3_pays_X3_percent : GoodIn wsX3_pays (wsV RX3 115 RX3 yX3_percent wsX3_percent) := goodIn_app (goodIn_of _ (by decide +kernel)) ggX3_pays_X3_percent
set_option maxRecDepth 20000 in
theorem ggX3_pass_X3_in : GoodIn wsX3_pass wsX3_in := goodIn_r _ [6] (by decide +kernel) (by decide +kernel)
set_option maxRecDepth 20000 in
theorem gX3_pass_X3_in : GoodIn wsX3_pass (va_wsS RX3 82 yX3_in wsX3_in) := goodIn_app (goodIn_of _ (by decide +kernel)) ggX3_pass_X3_in
set_option maxRecDepth 20000 in
theorem ggX3_pass_X3_asks : GoodIn wsX3_pass wsX3_asks := goodIn_r _ [10, 11, 48, 49, 50, 51, 52, 53, 54, 55, 56, 57, 58, 59, 60, 61, 62, 63, 64, 65, 66, 67, 68, 69, 70, 71, 72] (by decide +kernel) (by decide +kernel)
set_option maxRecDepth 20000 in
theorem gX3_pass_X3_asks : GoodIn wsX3_pass (wsV RX3 86 RX3 yX3_asks wsX3_asks) := goodIn_app (goodIn_of _ (by decide +kernel)) ggX3_pass_X3_asks
set_option maxRecDepth 20000 in
theorem ggX3_pass_X3_fails : GoodIn wsX3_pass wsX3_fails := goodIn_r _ [15, 11, 48, 49, 50, 51, 52, 53, 54, 55, 56, 57, 58, 59, 60, 61, 62, 63, 64, 65, 66, 67, 68, 69, 70, 71, 72] (by decide +kernel) (by decide +kernel)
set_option maxRecDepth 20000 in
theorem gX3_pass_X3_fails : GoodIn wsX3_pass (wsV RX3 90 RX3 yX3_fails wsX3_fails) := goodIn_app (goodIn_of _ (by decide +kernel)) ggX3_pass_X3_fails
set_option maxRecDepth 20000 in
theorem ggX3_pass_X3_pays : GoodIn wsX3_pass wsX3_pays := goodIn_r _ [19, 1, 20, 21, 22, 23, 24, 25, 26, 27, 28, 5, 29, 30, 31, 32, 33, 34, 35, 36, 37, 38, 39, 40, 41, 42, 43, 44, 45, 46, 47, 48, 49, 50, 51, 52, 53, 54, 55, 56, 57, 58, 59, 60, 61, 62, 63, 64, 65, 66, 67, 68, 69, 70, 71, 72] (by decide +kernel) (by decide +kernel)
set_option maxRecDepth 20000 in
theorem gX3_pass_X3_pays : GoodIn wsX3_pass (wsV RX3 118 RX3 yX3_pays wsX3_pays) := goodIn_app (goodIn_of _ (by decide +kernel)) ggX3_pass_X3_pays
set_option maxRecDepth 20000 in
theorem ggX3_paid_X3_isWorker : GoodIn wsX3_paid wsX3_isWorker := goodIn_r _ [6, 7, 22, 23, 24, 25, 26, 27, 28, 29, 30, 31, 32, 33, 34, 35, 36, 37, 38, 39, 40, 41, 42, 43, 44, 45, 46] (by decide +kernel) (by decide +kernel)
set_option maxRecDepth 20000 in
theorem gX3_paid_X3_isWorker : GoodIn wsX3_paid (wsV RX3 94 RX3 yX3_isWorker wsX3_isWorker) := goodIn_app (goodIn_of _ (by decide +kernel)) ggX3_paid_X3_isWorker
set_option maxRecDepth 20000 in
theorem ggX3_paid_X3_asks : GoodIn wsX3_paid wsX3_asks := goodIn_r _ [11, 12, 22, 23, 24, 25, 26, 27, 28, 29, 30, 31, 32, 33, 34, 35, 36, 37, 38, 39, 40, 41, 42, 43, 44, 45, 46] (by decide +kernel) (by decide +kernel)
set_option maxRecDepth 20000 in
theorem gX3_paid_X3_asks : GoodIn wsX3_paid (wsV RX3 86 RX3 yX3_asks wsX3_asks) := goodIn_app (goodIn_of _ (by decide +kernel)) ggX3_paid_X3_asks
set_option maxRecDepth 20000 in
theorem ggX3_paid_X3_isPast : GoodIn wsX3_paid wsX3_isPast := goodIn_r _ [16, 17, 22, 23, 24, 25, 26, 27, 28, 29, 30, 31, 32, 33, 34, 35, 36, 37, 38, 39, 40, 41, 42, 43, 44, 45, 46] (by decide +kernel) (by decide +kernel)
set_option maxRecDepth 20000 in
theorem gX3_paid_X3_isPast : GoodIn wsX3_paid (wsV RX3 121 RX3 yX3_isPast wsX3_isPast) := goodIn_app (goodIn_of _ (by decide +kernel)) ggX3_paid_X3_isPast
set_option maxRecDepth 20000 in
theorem ggX3_paid_X3_fails : GoodIn wsX3_paid wsX3_fails := goodIn_r _ [21, 12, 22, 23, 24, 25, 26, 27, 28, 29, 30, 31, 32, 33, 34, 35, 36, 37, 38, 39, 40, 41, 42, 43, 44, 45, 46] (by decide +kernel) (by decide +kernel)
set_option maxRecDepth 20000 in
theorem gX3_paid_X3_fails : GoodIn wsX3_paid (wsV RX3 90 RX3 yX3_fails wsX3_fails) := goodIn_app (goodIn_of _ (by decide +kernel)) ggX3_paid_X3_fails
set_option maxRecDepth 20000 in
theorem ggX3_madeUp_X3_isWorker : GoodIn wsX3_madeUp wsX3_isWorker := goodIn_r _ [6, 7, 22, 23, 24, 25, 26, 27, 28, 29, 30, 31, 32, 33, 34, 35, 36, 37, 38, 39, 40, 41, 42, 43, 44, 45, 46] (by decide +kernel) (by decide +kernel)
set_option maxRecDepth 20000 in
theorem gX3_madeUp_X3_isWorker : GoodIn wsX3_madeUp (wsV RX3 94 RX3 yX3_isWorker wsX3_isWorker) := goodIn_app (goodIn_of _ (by decide +kernel)) ggX3_madeUp_X3_isWorker
set_option maxRecDepth 20000 in
theorem ggX3_madeUp_X3_asks : GoodIn wsX3_madeUp wsX3_asks := goodIn_r _ [11, 12, 22, 23, 24, 25, 26, 27, 28, 29, 30, 31, 32, 33, 34, 35, 36, 37, 38, 39, 40, 41, 42, 43, 44, 45, 46] (by decide +kernel) (by decide +kernel)
set_option maxRecDepth 20000 in
theorem gX3_madeUp_X3_asks : GoodIn wsX3_madeUp (wsV RX3 86 RX3 yX3_asks wsX3_asks) := goodIn_app (goodIn_of _ (by decide +kernel)) ggX3_madeUp_X3_asks
set_option maxRecDepth 20000 in
theorem ggX3_madeUp_X3_isPast : GoodIn wsX3_madeUp wsX3_isPast := goodIn_r _ [16, 17, 22, 23, 24, 25, 26, 27, 28, 29, 30, 31, 32, 33, 34, 35, 36, 37, 38, 39, 40, 41, 42, 43, 44, 45, 46] (by decide +kernel) (by decide +kernel)
set_option maxRecDepth 20000 in
theorem gX3_madeUp_X3_isPast : GoodIn wsX3_madeUp (wsV RX3 121 RX3 yX3_isPast wsX3_isPast) := goodIn_app (goodIn_of _ (by decide +kernel)) ggX3_madeUp_X3_isPast
set_option maxRecDepth 20000 in
theorem ggX3_madeUp_X3_fails : GoodIn wsX3_madeUp wsX3_fails := goodIn_r _ [21, 12, 22, 23, 24, 25, 26, 27, 28, 29, 30, 31, 32, 33, 34, 35, 36, 37, 38, 39, 40, 41, 42, 43, 44, 45, 46] (by decide +kernel) (by decide +kernel)
set_option maxRecDepth 20000 in
theorem gX3_madeUp_X3_fails : GoodIn wsX3_madeUp (wsV RX3 90 RX3 yX3_fails wsX3_fails) := goodIn_app (goodIn_of _ (by decide +kernel)) ggX3_madeUp_X3_fails
set_option maxRecDepth 20000 in
theorem ggX3_cutWeeks_X3_isWorker : GoodIn wsX3_cutWeeks wsX3_isWorker := goodIn_r _ [6, 7, 13, 14, 15, 16, 17, 18, 19, 20, 21, 22, 23, 24, 25, 26, 27, 28, 29, 30, 31, 32, 33, 34, 35, 36, 37] (by decide +kernel) (by decide +kernel)
set_option maxRecDepth 20000 in
theorem gX3_cutWeeks_X3_isWorker : GoodIn wsX3_cutWeeks (wsV RX3 94 RX3 yX3_isWorker wsX3_isWorker) := goodIn_app (goodIn_of _ (by decide +kernel)) ggX3_cutWeeks_X3_isWorker
set_option maxRecDepth 20000 in
theorem ggX3_cutWeeks_X3_asks : GoodIn wsX3_cutWeeks wsX3_asks := goodIn_r _ [11, 12, 13, 14, 15, 16, 17, 18, 19, 20, 21, 22, 23, 24, 25, 26, 27, 28, 29, 30, 31, 32, 33, 34, 35, 36, 37] (by decide +kernel) (by decide +kernel)
set_option maxRecDepth 20000 in
theorem gX3_cutWeeks_X3_asks : GoodIn wsX3_cutWeeks (wsV RX3 86 RX3 yX3_asks wsX3_asks) := goodIn_app (goodIn_of _ (by decide +kernel)) ggX3_cutWeeks_X3_asks
set_option maxRecDepth 20000 in
theorem ggX3_door_X3_isWorker : GoodIn wsX3_door wsX3_isWorker := goodIn_r _ [7, 8, 26, 27, 28, 29, 30, 31, 32, 33, 34, 35, 36, 37, 38, 39, 40, 41, 42, 43, 44, 45, 46, 47, 48, 49, 50] (by decide +kernel) (by decide +kernel)
set_option maxRecDepth 20000 in
theorem gX3_door_X3_isWorker : GoodIn wsX3_door (wsV RX3 94 RX3 yX3_isWorker wsX3_isWorker) := goodIn_app (goodIn_of _ (by decide +kernel)) ggX3_door_X3_isWorker
set_option maxRecDepth 20000 in
theorem ggX3_door_X3_asks : GoodIn wsX3_door wsX3_asks := goodIn_r _ [12, 13, 26, 27, 28, 29, 30, 31, 32, 33, 34, 35, 36, 37, 38, 39, 40, 41, 42, 43, 44, 45, 46, 47, 48, 49, 50] (by decide +kernel) (by decide +kernel)
set_option maxRecDepth 20000 in
theorem gX3_door_X3_asks : GoodIn wsX3_door (wsV RX3 86 RX3 yX3_asks wsX3_asks) := goodIn_app (goodIn_of _ (by decide +kernel)) ggX3_door_X3_asks
set_option maxRecDepth 20000 in
theorem ggX3_door_X3_isPast : GoodIn wsX3_door wsX3_isPast := goodIn_r _ [17, 18, 26, 27, 28, 29, 30, 31, 32, 33, 34, 35, 36, 37, 38, 39, 40, 41, 42, 43, 44, 45, 46, 47, 48, 49, 50] (by decide +kernel) (by decide +kernel)
set_option maxRecDepth 20000 in
theorem gX3_door_X3_isPast : GoodIn wsX3_door (wsV RX3 121 RX3 yX3_isPast wsX3_isPast) := goodIn_app (goodIn_of _ (by decide +kernel)) ggX3_door_X3_isPast
set_option maxRecDepth 20000 in
theorem ggX3_door_X3_in : GoodIn wsX3_door wsX3_in := goodIn_r _ [21] (by decide +kernel) (by decide +kernel)
set_option maxRecDepth 20000 in
theorem gX3_door_X3_in : GoodIn wsX3_door (va_wsS RX3 82 yX3_in wsX3_in) := goodIn_app (goodIn_of _ (by decide +kernel)) ggX3_door_X3_in
set_option maxRecDepth 20000 in
theorem ggX3_door_X3_fails : GoodIn wsX3_door wsX3_fails := goodIn_r _ [25, 13, 26, 27, 28, 29, 30, 31, 32, 33, 34, 35, 36, 37, 38, 39, 40, 41, 42, 43, 44, 45, 46, 47, 48, 49, 50] (by decide +kernel) (by decide +kernel)
set_option maxRecDepth 20000 in
theorem gX3_door_X3_fails : GoodIn wsX3_door (wsV RX3 90 RX3 yX3_fails wsX3_fails) := goodIn_app (goodIn_of _ (by decide +kernel)) ggX3_door_X3_fails
set_option maxRecDepth 20000 in
theorem ggX3_mail_X3_isWorker : GoodIn wsX3_mail wsX3_isWorker := goodIn_r _ [7, 8, 23, 24, 25, 26, 27, 28, 29, 30, 31, 32, 33, 34, 35, 36, 37, 38, 39, 40, 41, 42, 43, 44, 45, 46, 47] (by decide +kernel) (by decide +kernel)
set_option maxRecDepth 20000 in
theorem gX3_mail_X3_isWorker : GoodIn wsX3_mail (wsV RX3 94 RX3 yX3_isWorker wsX3_isWorker) := goodIn_app (goodIn_of _ (by decide +kernel)) ggX3_mail_X3_isWorker
set_option maxRecDepth 20000 in
theorem ggX3_mail_X3_asks : GoodIn wsX3_mail wsX3_asks := goodIn_r _ [12, 13, 23, 24, 25, 26, 27, 28, 29, 30, 31, 32, 33, 34, 35, 36, 37, 38, 39, 40, 41, 42, 43, 44, 45, 46, 47] (by decide +kernel) (by decide +kernel)
set_option maxRecDepth 20000 in
theorem gX3_mail_X3_asks : GoodIn wsX3_mail (wsV RX3 86 RX3 yX3_asks wsX3_asks) := goodIn_app (goodIn_of _ (by decide +kernel)) ggX3_mail_X3_asks
set_option maxRecDepth 20000 in
theorem ggX3_mail_X3_isPast : GoodIn wsX3_mail wsX3_isPast := goodIn_r _ [17, 18, 23, 24, 25, 26, 27, 28, 29, 30, 31, 32, 33, 34, 35, 36, 37, 38, 39, 40, 41, 42, 43, 44, 45, 46, 47] (by decide +kernel) (by decide +kernel)
set_option maxRecDepth 20000 in
theorem gX3_mail_X3_isPast : GoodIn wsX3_mail (wsV RX3 121 RX3 yX3_isPast wsX3_isPast) := goodIn_app (goodIn_of _ (by decide +kernel)) ggX3_mail_X3_isPast
set_option maxRecDepth 20000 in
theorem ggX3_mail_X3_fails : GoodIn wsX3_mail wsX3_fails := goodIn_r _ [22, 13, 23, 24, 25, 26, 27, 28, 29, 30, 31, 32, 33, 34, 35, 36, 37, 38, 39, 40, 41, 42, 43, 44, 45, 46, 47] (by decide +kernel) (by decide +kernel)
set_option maxRecDepth 20000 in
theorem gX3_mail_X3_fails : GoodIn wsX3_mail (wsV RX3 90 RX3 yX3_fails wsX3_fails) := goodIn_app (goodIn_of _ (by decide +kernel)) ggX3_mail_X3_fails
set_option maxRecDepth 20000 in
theorem ggX3_check_X3_isPast : GoodIn wsX3_check wsX3_isPast := goodIn_r _ [13, 14, 24, 25, 26, 27, 28, 29, 30, 31, 32, 33, 34, 35, 36, 37, 38, 39, 40, 41, 42, 43, 44, 45, 46, 47, 48] (by decide +kernel) (by decide +kernel)
set_option maxRecDepth 20000 in
theorem gX3_check_X3_isPast : GoodIn wsX3_check (wsV RX3 121 RX3 yX3_isPast wsX3_isPast) := goodIn_app (goodIn_of _ (by decide +kernel)) ggX3_check_X3_isPast
set_option maxRecDepth 20000 in
theorem ggX3_check_X3_asks : GoodIn wsX3_check wsX3_asks := goodIn_r _ [18, 19, 24, 25, 26, 27, 28, 29, 30, 31, 32, 33, 34, 35, 36, 37, 38, 39, 40, 41, 42, 43, 44, 45, 46, 47, 48] (by decide +kernel) (by decide +kernel)
set_option maxRecDepth 20000 in
theorem gX3_check_X3_asks : GoodIn wsX3_check (wsV RX3 86 RX3 yX3_asks wsX3_asks) := goodIn_app (goodIn_of _ (by decide +kernel)) ggX3_check_X3_asks
set_option maxRecDepth 20000 in
theorem ggX3_check_X3_fails : GoodIn wsX3_check wsX3_fails := goodIn_r _ [23, 19, 24, 25, 26, 27, 28, 29, 30, 31, 32, 33, 34, 35, 36, 37, 38, 39, 40, 41, 42, 43, 44, 45, 46, 47, 48] (by decide +kernel) (by decide +kernel)
set_option maxRecDepth 20000 in
theorem gX3_check_X3_fails : GoodIn wsX3_check (wsV RX3 90 RX3 yX3_fails wsX3_fails) := goodIn_app (goodIn_of _ (by decide +kernel)) ggX3_check_X3_fails
set_option maxRecDepth 20000 in
theorem ggX3_owes_X3_isWorker : GoodIn wsX3_owes wsX3_isWorker := goodIn_r _ [6, 7, 13, 14, 15, 16, 17, 18, 19, 20, 21, 22, 23, 24, 25, 26, 27, 28, 29, 30, 31, 32, 33, 34, 35, 36, 37] (by decide +kernel) (by decide +kernel)
set_option maxRecDepth 20000 in
theorem gX3_owes_X3_isWorker : GoodIn wsX3_owes (wsV RX3 94 RX3 yX3_isWorker wsX3_isWorker) := goodIn_app (goodIn_of _ (by decide +kernel)) ggX3_owes_X3_isWorker
set_option maxRecDepth 20000 in
theorem ggX3_owes_X3_asks : GoodIn wsX3_owes wsX3_asks := goodIn_r _ [11, 12, 13, 14, 15, 16, 17, 18, 19, 20, 21, 22, 23, 24, 25, 26, 27, 28, 29, 30, 31, 32, 33, 34, 35, 36, 37] (by decide +kernel) (by decide +kernel)
set_option maxRecDepth 20000 in
theorem gX3_owes_X3_asks : GoodIn wsX3_owes (wsV RX3 86 RX3 yX3_asks wsX3_asks) := goodIn_app (goodIn_of _ (by decide +kernel)) ggX3_owes_X3_asks
set_option maxRecDepth 20000 in
theorem ggX3_net_X3_isWorker : GoodIn wsX3_net wsX3_isWorker := goodIn_r _ [8, 9, 15, 16, 17, 18, 19, 20, 21, 22, 23, 24, 25, 26, 27, 28, 29, 30, 31, 32, 33, 34, 35, 36, 37, 38, 39] (by decide +kernel) (by decide +kernel)
set_option maxRecDepth 20000 in
theorem gX3_net_X3_isWorker : GoodIn wsX3_net (wsV RX3 94 RX3 yX3_isWorker wsX3_isWorker) := goodIn_app (goodIn_of _ (by decide +kernel)) ggX3_net_X3_isWorker
set_option maxRecDepth 20000 in
theorem ggX3_net_X3_asks : GoodIn wsX3_net wsX3_asks := goodIn_r _ [13, 14, 15, 16, 17, 18, 19, 20, 21, 22, 23, 24, 25, 26, 27, 28, 29, 30, 31, 32, 33, 34, 35, 36, 37, 38, 39] (by decide +kernel) (by decide +kernel)
set_option maxRecDepth 20000 in
theorem gX3_net_X3_asks : GoodIn wsX3_net (wsV RX3 86 RX3 yX3_asks wsX3_asks) := goodIn_app (goodIn_of _ (by decide +kernel)) ggX3_net_X3_asks
