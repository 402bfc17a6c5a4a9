set_option maxRecDepth 20000 in
theorem ggL_law_X3_pass : GoodIn wsL_law wsX3_pass := goodIn_r _ [278, 133, 89, 90, 91, 5, 92, 93, 94, 95, 96, 97, 98, 99, 100, 101, 279, 280, 281, 282, 25, 38, 39, 40, 41, 31, 222, 223, 224, 225, 27, 28, 29, 30, 283, 284, 285, 286, 26, 241, 242, 243, 244, 160, 37, 34, 35, 36, 417, 418, 419, 420, 421, 422, 423, 424, 425, 426, 427, 428, 429, 430, 431, 432, 433, 434, 435, 436, 437, 438, 439, 440, 441] (by decide +kernel) (by decide +kernel)
set_option maxRecDepth 20000 in
theorem gL_law_X3_pass : GoodIn wsL_law (wsV RL 111 RX3 yX3_pass wsX3_pass) := goodIn_app (goodIn_of _ (by decide +kernel)) ggL_law_X3_pass
set_option maxRecDepth 20000 in
theorem ggL_law_X2_week : GoodIn wsL_law wsX2_week := goodIn_r _ [290, 114, 409, 410, 411, 412, 413, 414, 415, 416] (by decide +kernel) (by decide +kernel)
set_option maxRecDepth 20000 in
theorem gL_law_X2_week : GoodIn wsL_law (wsV RL 112 RX2 yX2_week wsX2_week) := goodIn_app (goodIn_of _ (by decide +kernel)) ggL_law_X2_week
set_option maxRecDepth 20000 in
theorem ggL_law_X3_week : GoodIn wsL_law wsX3_week := goodIn_r _ [294, 97, 133, 417, 418, 419, 420, 421, 422, 423, 424, 425, 426, 427, 428, 429, 430, 431, 432, 433, 434, 435, 436, 437, 438, 439, 440, 441] (by decide +kernel) (by decide +kernel)
set_option maxRecDepth 20000 in
theorem gL_law_X3_week : GoodIn wsL_law (wsV RL 115 RX3 yX3_week wsX3_week) := goodIn_app (goodIn_of _ (by decide +kernel)) ggL_law_X3_week
set_option maxRecDepth 20000 in
theorem ggL_law_L_paid : GoodIn wsL_law wsL_paid := goodIn_ca (goodIn_ca (goodIn_r _ [297, 109, 49, 298, 299, 300, 2, 301, 115, 116, 117, 118, 119, 120, 56, 14, 59, 60, 61, 302, 303, 304, 305, 114, 62, 63, 64, 65, 66, 442, 443, 444, 445, 446, 447, 448, 449, 450, 451, 452, 453, 409, 410, 411, 412, 413, 414, 415, 416] (by decide +kernel) (by decide +kernel)) (goodIn_sub (fun _ h => List.mem_append_right _ h) (by decide +kernel))) (goodIn_sub (fun _ h => List.mem_append_left _ (List.mem_append_left _ (List.mem_append_right _ h))) (by decide +kernel))
set_option maxRecDepth 20000 in
theorem gL_law_L_paid : GoodIn wsL_law (va_wsS RL 116 yL_paid wsL_paid) := goodIn_app (goodIn_of _ (by decide +kernel)) ggL_law_L_paid
set_option maxRecDepth 20000 in
theorem ggL_law_X3_paid : GoodIn wsL_law wsX3_paid := goodIn_r _ [309, 39, 134, 135, 136, 5, 137, 89, 93, 94, 95, 96, 97, 310, 311, 312, 313, 133, 98, 99, 100, 101, 417, 418, 419, 420, 421, 422, 423, 424, 425, 426, 427, 428, 429, 430, 431, 432, 433, 434, 435, 436, 437, 438, 439, 440, 441] (by decide +kernel) (by decide +kernel)
set_option maxRecDepth 20000 in
theorem gL_law_X3_paid : GoodIn wsL_law (wsV RL 118 RX3 yX3_paid wsX3_paid) := goodIn_app (goodIn_of _ (by decide +kernel)) ggL_law_X3_paid
set_option maxRecDepth 20000 in
theorem ggL_law_L_madeUp : GoodIn wsL_law wsL_madeUp := goodIn_ca (goodIn_ca (goodIn_r _ [316, 109, 49, 317, 318, 319, 2, 320, 115, 116, 117, 118, 119, 120, 56, 14, 59, 60, 61, 302, 303, 304, 305, 114, 62, 63, 64, 65, 66, 442, 443, 444, 445, 446, 447, 448, 449, 450, 451, 452, 453, 409, 410, 411, 412, 413, 414, 415, 416] (by decide +kernel) (by decide +kernel)) (goodIn_sub (fun _ h => List.mem_append_right _ h) (by decide +kernel))) (goodIn_sub (fun _ h => List.mem_append_left _ (List.mem_append_left _ (List.mem_append_right _ h))) (by decide +kernel))
set_option maxRecDepth 20000 in
theorem gL_law_L_madeUp : GoodIn wsL_law (va_wsS RL 119 yL_madeUp wsL_madeUp) := goodIn_app (goodIn_of _ (by decide +kernel)) ggL_law_L_madeUp
set_option maxRecDepth 20000 in
theorem ggL_law_X3_madeUp : GoodIn wsL_law wsX3_madeUp := goodIn_r _ [324, 40, 134, 135, 136, 5, 137, 89, 93, 94, 95, 96, 97, 310, 311, 312, 313, 133, 98, 99, 100, 101, 417, 418, 419, 420, 421, 422, 423, 424, 425, 426, 427, 428, 429, 430, 431, 432, 433, 434, 435, 436, 437, 438, 439, 440, 441] (by decide +kernel) (by decide +kernel)
set_option maxRecDepth 20000 in
theorem gL_law_X3_madeUp : GoodIn wsL_law (wsV RL 121 RX3 yX3_madeUp wsX3_madeUp) := goodIn_app (goodIn_of _ (by decide +kernel)) ggL_law_X3_madeUp
set_option maxRecDepth 20000 in
theorem ggL_law_L_cutWeeks : GoodIn wsL_law wsL_cutWeeks := goodIn_ca (goodIn_r _ [327, 109, 328, 329, 330, 2, 331, 115, 116, 117, 118, 119, 120, 56, 14, 59, 60, 61, 442, 443, 444, 445, 446, 447, 448, 449, 450, 451, 452, 453, 409, 410, 411, 412, 413, 414, 415, 416] (by decide +kernel) (by decide +kernel)) (goodIn_sub (fun _ h => List.mem_append_right _ h) (by decide +kernel))
set_option maxRecDepth 20000 in
theorem gL_law_L_cutWeeks : GoodIn wsL_law (va_wsS RL 122 yL_cutWeeks wsL_cutWeeks) := goodIn_app (goodIn_of _ (by decide +kernel)) ggL_law_L_cutWeeks
set_option maxRecDepth 20000 in
theorem ggL_law_X3_cutWeeks : GoodIn wsL_law wsX3_cutWeeks := goodIn_r _ [335, 31, 134, 135, 136, 5, 137, 89, 93, 94, 95, 96, 97, 417, 418, 419, 420, 421, 422, 423, 424, 425, 426, 427, 428, 429, 430, 431, 432, 433, 434, 435, 436, 437, 438, 439, 440, 441] (by decide +kernel) (by decide +kernel)
set_option maxRecDepth 20000 in
theorem gL_law_X3_cutWeeks : GoodIn wsL_law (wsV RL 124 RX3 yX3_cutWeeks wsX3_cutWeeks) := goodIn_app (goodIn_of _ (by decide +kernel)) ggL_law_X3_cutWeeks
set_option maxRecDepth 20000 in
theorem ggL_law_L_door : GoodIn wsL_law wsL_door := goodIn_ca (goodIn_ca (goodIn_ca (goodIn_r _ [338, 109, 49, 50, 339, 340, 341, 2, 342, 18, 115, 116, 117, 118, 119, 120, 56, 14, 59, 60, 61, 302, 303, 304, 305, 114, 62, 63, 64, 65, 66, 67, 68, 69, 70, 71, 409, 410, 411, 412, 413, 414, 415, 416, 442, 443, 444, 445, 446, 447, 448, 449, 450, 451, 452, 453] (by decide +kernel) (by decide +kernel)) (goodIn_sub (fun _ h => List.mem_append_right _ h) (by decide +kernel))) (goodIn_sub (fun _ h => List.mem_append_left _ (List.mem_append_left _ (List.mem_append_right _ h))) (by decide +kernel))) (goodIn_sub (fun _ h => List.mem_append_left _ (List.mem_append_right _ h)) (by decide +kernel))
set_option maxRecDepth 20000 in
theorem gL_law_L_door : GoodIn wsL_law (va_wsS RL 125 yL_door wsL_door) := goodIn_app (goodIn_of _ (by decide +kernel)) ggL_law_L_door
set_option maxRecDepth 20000 in
theorem ggL_law_X3_door : GoodIn wsL_law wsX3_door := goodIn_r _ [346, 44, 42, 134, 135, 136, 5, 137, 89, 93, 94, 95, 96, 97, 310, 311, 312, 313, 133, 90, 91, 92, 98, 99, 100, 101, 417, 418, 419, 420, 421, 422, 423, 424, 425, 426, 427, 428, 429, 430, 431, 432, 433, 434, 435, 436, 437, 438, 439, 440, 441] (by decide +kernel) (by decide +kernel)
set_option maxRecDepth 20000 in
theorem gL_law_X3_door : GoodIn wsL_law (wsV RL 128 RX3 yX3_door wsX3_door) := goodIn_app (goodIn_of _ (by decide +kernel)) ggL_law_X3_door
set_option maxRecDepth 20000 in
theorem ggL_law_L_mail : GoodIn wsL_law wsL_mail := goodIn_ca (goodIn_ca (goodIn_ca (goodIn_r _ [349, 109, 49, 50, 350, 351, 352, 2, 353, 18, 115, 116, 117, 118, 119, 120, 56, 14, 59, 60, 61, 302, 303, 304, 305, 114, 62, 63, 64, 65, 66, 67, 68, 69, 70, 71, 409, 410, 411, 412, 413, 414, 415, 416, 442, 443, 444, 445, 446, 447, 448, 449, 450, 451, 452, 453] (by decide +kernel) (by decide +kernel)) (goodIn_sub (fun _ h => List.mem_append_right _ h) (by decide +kernel))) (goodIn_sub (fun _ h => List.mem_append_left _ (List.mem_append_left _ (List.mem_append_right _ h))) (by decide +kernel))) (goodIn_sub (fun _ h => List.mem_append_left _ (List.mem_append_right _ h)) (by decide +kernel))
set_option maxRecDepth 20000 in
theorem gL_law_L_mail : GoodIn wsL_law (va_wsS RL 129 yL_mail wsL_mail) := goodIn_app (goodIn_of _ (by decide +kernel)) ggL_law_L_mail
set_option maxRecDepth 20000 in
theorem ggL_law_X3_mail : GoodIn wsL_law wsX3_mail := goodIn_r _ [357, 44, 43, 134, 135, 136, 5, 137, 89, 93, 94, 95, 96, 97, 310, 311, 312, 313, 133, 98, 99, 100, 101, 417, 418, 419, 420, 421, 422, 423, 424, 425, 426, 427, 428, 429, 430, 431, 432, 433, 434, 435, 436, 437, 438, 439, 440, 441] (by decide +kernel) (by decide +kernel)
set_option maxRecDepth 20000 in
theorem gL_law_X3_mail : GoodIn wsL_law (wsV RL 132 RX3 yX3_mail wsX3_mail) := goodIn_app (goodIn_of _ (by decide +kernel)) ggL_law_X3_mail
set_option maxRecDepth 20000 in
theorem ggL_law_L_check : GoodIn wsL_law wsL_check := goodIn_ca (goodIn_ca (goodIn_r _ [360, 49, 50, 361, 362, 363, 2, 364, 18, 14, 302, 303, 304, 305, 114, 59, 60, 61, 62, 63, 64, 65, 66, 67, 68, 69, 70, 71, 365, 366, 367, 58, 368, 78, 82, 81, 369, 370, 371, 372, 373, 409, 410, 411, 412, 413, 414, 415, 416, 442, 443, 444, 445, 446, 447, 448, 449, 450, 451, 452, 453] (by decide +kernel) (by decide +kernel)) (goodIn_sub (fun _ h => List.mem_append_left _ (List.mem_append_left _ (List.mem_append_right _ h))) (by decide +kernel))) (goodIn_sub (fun _ h => List.mem_append_left _ (List.mem_append_right _ h)) (by decide +kernel))
set_option maxRecDepth 20000 in
theorem gL_law_L_check : GoodIn wsL_law (va_wsS RL 133 yL_check wsL_check) := goodIn_app (goodIn_of _ (by decide +kernel)) ggL_law_L_check
set_option maxRecDepth 20000 in
theorem ggL_law_X3_check : GoodIn wsL_law wsX3_check := goodIn_r _ [377, 44, 89, 40, 42, 41, 43, 32, 378, 310, 311, 312, 5, 313, 133, 93, 94, 95, 96, 97, 98, 99, 100, 101, 417, 418, 419, 420, 421, 422, 423, 424, 425, 426, 427, 428, 429, 430, 431, 432, 433, 434, 435, 436, 437, 438, 439, 440, 441] (by decide +kernel) (by decide +kernel)
set_option maxRecDepth 20000 in
theorem gL_law_X3_check : GoodIn wsL_law (wsV RL 135 RX3 yX3_check wsX3_check) := goodIn_app (goodIn_of _ (by decide +kernel)) ggL_law_X3_check
set_option maxRecDepth 20000 in
theorem ggL_law_X2_firmOwes : GoodIn wsL_law wsX2_firmOwes := goodIn_r _ [382, 373, 409, 410, 411, 412, 413, 414, 415, 416] (by decide +kernel) (by decide +kernel)
set_option maxRecDepth 20000 in
theorem gL_law_X2_firmOwes : GoodIn wsL_law (wsV RL 136 RX2 yX2_firmOwes wsX2_firmOwes) := goodIn_app (goodIn_of _ (by decide +kernel)) ggL_law_X2_firmOwes
set_option maxRecDepth 20000 in
theorem ggL_law_X3_firmOwes : GoodIn wsL_law wsX3_firmOwes := goodIn_r _ [386, 97, 378, 417, 418, 419, 420, 421, 422, 423, 424, 425, 426, 427, 428, 429, 430, 431, 432, 433, 434, 435, 436, 437, 438, 439, 440, 441] (by decide +kernel) (by decide +kernel)
set_option maxRecDepth 20000 in
theorem gL_law_X3_firmOwes : GoodIn wsL_law (wsV RL 139 RX3 yX3_firmOwes wsX3_firmOwes) := goodIn_app (goodIn_of _ (by decide +kernel)) ggL_law_X3_firmOwes
set_option maxRecDepth 20000 in
theorem ggL_law_L_owes : GoodIn wsL_law wsL_owes := goodIn_ca (goodIn_r _ [389, 109, 390, 391, 392, 2, 393, 115, 116, 117, 118, 119, 120, 56, 14, 59, 60, 61, 442, 443, 444, 445, 446, 447, 448, 449, 450, 451, 452, 453, 409, 410, 411, 412, 413, 414, 415, 416] (by decide +kernel) (by decide +kernel)) (goodIn_sub (fun _ h => List.mem_append_right _ h) (by decide +kernel))
set_option maxRecDepth 20000 in
theorem gL_law_L_owes : GoodIn wsL_law (va_wsS RL 140 yL_owes wsL_owes) := goodIn_app (goodIn_of _ (by decide +kernel)) ggL_law_L_owes
set_option maxRecDepth 20000 in
theorem ggL_law_X3_owes : GoodIn wsL_law wsX3_owes := goodIn_r _ [397, 32, 134, 135, 136, 5, 137, 89, 93, 94, 95, 96, 97, 417, 418, 419, 420, 421, 422, 423, 424, 425, 426, 427, 428, 429, 430, 431, 432, 433, 434, 435, 436, 437, 438, 439, 440, 441] (by decide +kernel) (by decide +kernel)
set_option maxRecDepth 20000 in
theorem gL_law_X3_owes : GoodIn wsL_law (wsV RL 142 RX3 yX3_owes wsX3_owes) := goodIn_app (goodIn_of _ (by decide +kernel)) ggL_law_X3_owes
set_option maxRecDepth 20000 in
theorem ggL_law_L_net : GoodIn wsL_law wsL_net := goodIn_ca (goodIn_r _ [400, 109, 401, 402, 403, 2, 404, 115, 116, 117, 118, 119, 120, 56, 14, 59, 60, 61, 442, 443, 444, 445, 446, 447, 448, 449, 450, 451, 452, 453, 409, 410, 411, 412, 413, 414, 415, 416] (by decide +kernel) (by decide +kernel)) (goodIn_sub (fun _ h => List.mem_append_right _ h) (by decide +kernel))
set_option maxRecDepth 20000 in
theorem gL_law_L_net : GoodIn wsL_law (va_wsS RL 143 yL_net wsL_net) := goodIn_app (goodIn_of _ (by decide +kernel)) ggL_law_L_net
set_option maxRecDepth 20000 in
theorem ggL_law_X3_net : GoodIn wsL_law wsX3_net := goodIn_r _ [408, 32, 39, 40, 134, 135, 136, 5, 137, 89, 93, 94, 95, 96, 97, 417, 418, 419, 420, 421, 422, 423, 424, 425, 426, 427, 428, 429, 430, 431, 432, 433, 434, 435, 436, 437, 438, 439, 440, 441] (by decide +kernel) (by decide +kernel)
set_option maxRecDepth 20000 in
theorem gL_law_X3_net : GoodIn wsL_law (wsV RL 145 RX3 yX3_net wsX3_net) := goodIn_app (goodIn_of _ (by decide +kernel)) ggL_law_X3_net
