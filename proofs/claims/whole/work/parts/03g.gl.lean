set_option maxRecDepth 20000 in
theorem ggL_law_X2_init : GoodIn wsL_law wsX2_init := goodIn_r _ [9, 10, 11, 12, 13, 14, 15, 16, 17, 18, 19, 409, 410, 411, 412, 413, 414, 415, 416] (by decide +kernel) (by decide +kernel)
set_option maxRecDepth 20000 in
theorem gL_law_X2_init : GoodIn wsL_law (wsX2_init) := ggL_law_X2_init
set_option maxRecDepth 20000 in
theorem ggL_law_X3_init : GoodIn wsL_law wsX3_init := goodIn_r _ [22, 23, 11, 12, 24, 25, 17, 26, 27, 28, 29, 30, 31, 32, 33, 34, 35, 36, 37, 38, 39, 40, 41, 42, 43, 44, 417, 418, 419, 420, 421, 422, 423, 424, 425, 426, 427, 428, 429, 430, 431, 432, 433, 434, 435, 436, 437, 438, 439, 440, 441] (by decide +kernel) (by decide +kernel)
set_option maxRecDepth 20000 in
theorem gL_law_X3_init : GoodIn wsL_law (wsX3_init) := ggL_law_X3_init
set_option maxRecDepth 20000 in
theorem ggL_law_L_add : GoodIn wsL_law wsL_add := goodIn_ca (goodIn_ca (goodIn_r _ [48, 49, 50, 51, 52, 53, 2, 54, 55, 56, 14, 13, 57, 58, 59, 60, 61, 62, 63, 64, 65, 66, 67, 68, 69, 70, 71, 72, 73, 74, 75, 11, 12, 76, 77, 24, 78, 79, 80, 81, 82, 17, 83, 409, 410, 411, 412, 413, 414, 415, 416, 442, 443, 444, 445, 446, 447, 448, 449, 450, 451, 452, 453] (by decide +kernel) (by decide +kernel)) (goodIn_sub (fun _ h => List.mem_append_left _ (List.mem_append_left _ (List.mem_append_right _ h))) (by decide +kernel))) (goodIn_sub (fun _ h => List.mem_append_left _ (List.mem_append_right _ h)) (by decide +kernel))
set_option maxRecDepth 20000 in
theorem gL_law_L_add : GoodIn wsL_law (va_wsS RL 74 yL_add wsL_add) := goodIn_app (goodIn_of _ (by decide +kernel)) ggL_law_L_add
set_option maxRecDepth 20000 in
theorem ggL_law_X3_add : GoodIn wsL_law wsX3_add := goodIn_r _ [87, 88, 89, 25, 26, 90, 91, 5, 92, 93, 94, 95, 96, 97, 98, 99, 100, 101, 417, 418, 419, 420, 421, 422, 423, 424, 425, 426, 427, 428, 429, 430, 431, 432, 433, 434, 435, 436, 437, 438, 439, 440, 441] (by decide +kernel) (by decide +kernel)
set_option maxRecDepth 20000 in
theorem gL_law_X3_add : GoodIn wsL_law (wsV RL 79 RX3 yX3_add wsX3_add) := goodIn_app (goodIn_of _ (by decide +kernel)) ggL_law_X3_add
set_option maxRecDepth 20000 in
theorem ggL_law_X3_thrown : GoodIn wsL_law wsX3_thrown := goodIn_r _ [105, 97, 417, 418, 419, 420, 421, 422, 423, 424, 425, 426, 427, 428, 429, 430, 431, 432, 433, 434, 435, 436, 437, 438, 439, 440, 441] (by decide +kernel) (by decide +kernel)
set_option maxRecDepth 20000 in
theorem gL_law_X3_thrown : GoodIn wsL_law (wsV RL 80 RX3 yX3_thrown wsX3_thrown) := goodIn_app (goodIn_of _ (by decide +kernel)) ggL_law_X3_thrown
set_option maxRecDepth 20000 in
theorem ggL_law_L_notice : GoodIn wsL_law wsL_notice := goodIn_ca (goodIn_ca (goodIn_ca (goodIn_r _ [108, 109, 49, 50, 110, 111, 112, 2, 113, 114, 115, 116, 117, 118, 119, 120, 56, 14, 59, 60, 61, 121, 122, 123, 62, 63, 64, 65, 66, 67, 68, 69, 70, 71, 124, 125, 126, 58, 127, 78, 128, 409, 410, 411, 412, 413, 414, 415, 416, 442, 443, 444, 445, 446, 447, 448, 449, 450, 451, 452, 453] (by decide +kernel) (by decide +kernel)) (goodIn_sub (fun _ h => List.mem_append_right _ h) (by decide +kernel))) (goodIn_sub (fun _ h => List.mem_append_left _ (List.mem_append_left _ (List.mem_append_right _ h))) (by decide +kernel))) (goodIn_sub (fun _ h => List.mem_append_left _ (List.mem_append_right _ h)) (by decide +kernel))
set_option maxRecDepth 20000 in
theorem gL_law_L_notice : GoodIn wsL_law (va_wsS RL 84 yL_notice wsL_notice) := goodIn_app (goodIn_of _ (by decide +kernel)) ggL_law_L_notice
set_option maxRecDepth 20000 in
theorem ggL_law_X3_notice : GoodIn wsL_law wsX3_notice := goodIn_r _ [132, 133, 27, 28, 29, 30, 134, 135, 136, 5, 137, 89, 93, 94, 95, 96, 97, 90, 91, 92, 98, 99, 100, 101, 417, 418, 419, 420, 421, 422, 423, 424, 425, 426, 427, 428, 429, 430, 431, 432, 433, 434, 435, 436, 437, 438, 439, 440, 441] (by decide +kernel) (by decide +kernel)
set_option maxRecDepth 20000 in
theorem gL_law_X3_notice : GoodIn wsL_law (wsV RL 87 RX3 yX3_notice wsX3_notice) := goodIn_app (goodIn_of _ (by decide +kernel)) ggL_law_X3_notice
set_option maxRecDepth 20000 in
theorem ggL_law_L_addCourse : GoodIn wsL_law wsL_addCourse := goodIn_ca (goodIn_ca (goodIn_r _ [140, 49, 50, 141, 142, 143, 2, 144, 145, 16, 15, 146, 147, 59, 60, 61, 121, 122, 123, 62, 63, 64, 65, 66, 67, 68, 69, 70, 71, 148, 149, 150, 151, 11, 12, 152, 153, 154, 155, 409, 410, 411, 412, 413, 414, 415, 416, 454, 455, 456, 457] (by decide +kernel) (by decide +kernel)) (goodIn_sub (fun _ h => List.mem_append_left _ (List.mem_append_left _ (List.mem_append_right _ h))) (by decide +kernel))) (goodIn_sub (fun _ h => List.mem_append_left _ (List.mem_append_right _ h)) (by decide +kernel))
set_option maxRecDepth 20000 in
theorem gL_law_L_addCourse : GoodIn wsL_law (va_wsS RL 88 yL_addCourse wsL_addCourse) := goodIn_app (goodIn_of _ (by decide +kernel)) ggL_law_L_addCourse
set_option maxRecDepth 20000 in
theorem ggL_law_X3_addCourse : GoodIn wsL_law wsX3_addCourse := goodIn_r _ [159, 160, 33, 34, 35, 36, 90, 91, 5, 92, 93, 94, 95, 96, 97, 98, 99, 100, 101, 417, 418, 419, 420, 421, 422, 423, 424, 425, 426, 427, 428, 429, 430, 431, 432, 433, 434, 435, 436, 437, 438, 439, 440, 441] (by decide +kernel) (by decide +kernel)
set_option maxRecDepth 20000 in
theorem gL_law_X3_addCourse : GoodIn wsL_law (wsV RL 90 RX3 yX3_addCourse wsX3_addCourse) := goodIn_app (goodIn_of _ (by decide +kernel)) ggL_law_X3_addCourse
set_option maxRecDepth 20000 in
theorem ggL_law_L_enrol : GoodIn wsL_law wsL_enrol := goodIn_ca (goodIn_ca (goodIn_r _ [163, 109, 50, 164, 165, 166, 2, 167, 114, 115, 116, 117, 118, 119, 120, 56, 14, 59, 60, 61, 168, 169, 170, 171, 145, 16, 172, 173, 174, 58, 175, 79, 67, 68, 69, 70, 71, 176, 177, 178, 179, 454, 455, 456, 457, 409, 410, 411, 412, 413, 414, 415, 416, 442, 443, 444, 445, 446, 447, 448, 449, 450, 451, 452, 453] (by decide +kernel) (by decide +kernel)) (goodIn_sub (fun _ h => List.mem_append_right _ h) (by decide +kernel))) (goodIn_sub (fun _ h => List.mem_append_left _ (List.mem_append_right _ h)) (by decide +kernel))
set_option maxRecDepth 20000 in
theorem gL_law_L_enrol : GoodIn wsL_law (va_wsS RL 91 yL_enrol wsL_enrol) := goodIn_app (goodIn_of _ (by decide +kernel)) ggL_law_L_enrol
set_option maxRecDepth 20000 in
theorem ggL_law_X3_enrol : GoodIn wsL_law wsX3_enrol := goodIn_r _ [183, 33, 35, 133, 37, 134, 135, 136, 5, 137, 89, 184, 185, 186, 187, 160, 93, 94, 95, 96, 97, 188, 189, 190, 191, 34, 98, 99, 100, 101, 417, 418, 419, 420, 421, 422, 423, 424, 425, 426, 427, 428, 429, 430, 431, 432, 433, 434, 435, 436, 437, 438, 439, 440, 441] (by decide +kernel) (by decide +kernel)
set_option maxRecDepth 20000 in
theorem gL_law_X3_enrol : GoodIn wsL_law (wsV RL 94 RX3 yX3_enrol wsX3_enrol) := goodIn_app (goodIn_of _ (by decide +kernel)) ggL_law_X3_enrol
set_option maxRecDepth 20000 in
theorem ggL_law_L_setFloor : GoodIn wsL_law wsL_setFloor := goodIn_ca (goodIn_r _ [194, 49, 195, 196, 197, 2, 198, 19, 59, 60, 61, 62, 63, 64, 65, 66, 409, 410, 411, 412, 413, 414, 415, 416] (by decide +kernel) (by decide +kernel)) (goodIn_sub (fun _ h => List.mem_append_left _ (List.mem_append_left _ (List.mem_append_right _ h))) (by decide +kernel))
set_option maxRecDepth 20000 in
theorem gL_law_L_setFloor : GoodIn wsL_law (va_wsS RL 95 yL_setFloor wsL_setFloor) := goodIn_app (goodIn_of _ (by decide +kernel)) ggL_law_L_setFloor
set_option maxRecDepth 20000 in
theorem ggL_law_X3_setFloor : GoodIn wsL_law wsX3_setFloor := goodIn_r _ [202, 38, 90, 91, 5, 92, 93, 94, 95, 96, 97, 417, 418, 419, 420, 421, 422, 423, 424, 425, 426, 427, 428, 429, 430, 431, 432, 433, 434, 435, 436, 437, 438, 439, 440, 441] (by decide +kernel) (by decide +kernel)
set_option maxRecDepth 20000 in
theorem gL_law_X3_setFloor : GoodIn wsL_law (wsV RL 98 RX3 yX3_setFloor wsX3_setFloor) := goodIn_app (goodIn_of _ (by decide +kernel)) ggL_law_X3_setFloor
set_option maxRecDepth 20000 in
theorem ggL_law_X2_workers : GoodIn wsL_law wsX2_workers := goodIn_r _ [206, 56, 409, 410, 411, 412, 413, 414, 415, 416] (by decide +kernel) (by decide +kernel)
set_option maxRecDepth 20000 in
theorem gL_law_X2_workers : GoodIn wsL_law (wsV RL 99 RX2 yX2_workers wsX2_workers) := goodIn_app (goodIn_of _ (by decide +kernel)) ggL_law_X2_workers
set_option maxRecDepth 20000 in
theorem ggL_law_X3_workers : GoodIn wsL_law wsX3_workers := goodIn_r _ [210, 97, 89, 417, 418, 419, 420, 421, 422, 423, 424, 425, 426, 427, 428, 429, 430, 431, 432, 433, 434, 435, 436, 437, 438, 439, 440, 441] (by decide +kernel) (by decide +kernel)
set_option maxRecDepth 20000 in
theorem gL_law_X3_workers : GoodIn wsL_law (wsV RL 102 RX3 yX3_workers wsX3_workers) := goodIn_app (goodIn_of _ (by decide +kernel)) ggL_law_X3_workers
set_option maxRecDepth 20000 in
theorem ggL_law_L_cut : GoodIn wsL_law wsL_cut := goodIn_ca (goodIn_ca (goodIn_r _ [213, 109, 49, 214, 215, 216, 2, 217, 115, 116, 117, 118, 119, 120, 56, 14, 59, 60, 61, 62, 63, 64, 65, 66, 442, 443, 444, 445, 446, 447, 448, 449, 450, 451, 452, 453, 409, 410, 411, 412, 413, 414, 415, 416] (by decide +kernel) (by decide +kernel)) (goodIn_sub (fun _ h => List.mem_append_right _ h) (by decide +kernel))) (goodIn_sub (fun _ h => List.mem_append_left _ (List.mem_append_left _ (List.mem_append_right _ h))) (by decide +kernel))
set_option maxRecDepth 20000 in
theorem gL_law_L_cut : GoodIn wsL_law (va_wsS RL 103 yL_cut wsL_cut) := goodIn_app (goodIn_of _ (by decide +kernel)) ggL_law_L_cut
set_option maxRecDepth 20000 in
theorem ggL_law_X3_cut : GoodIn wsL_law wsX3_cut := goodIn_r _ [221, 134, 135, 136, 5, 137, 89, 93, 94, 95, 96, 97, 90, 91, 92, 222, 223, 224, 225, 27, 28, 29, 30, 98, 99, 100, 101, 417, 418, 419, 420, 421, 422, 423, 424, 425, 426, 427, 428, 429, 430, 431, 432, 433, 434, 435, 436, 437, 438, 439, 440, 441] (by decide +kernel) (by decide +kernel)
set_option maxRecDepth 20000 in
theorem gL_law_X3_cut : GoodIn wsL_law (wsV RL 105 RX3 yX3_cut wsX3_cut) := goodIn_app (goodIn_of _ (by decide +kernel)) ggL_law_X3_cut
set_option maxRecDepth 20000 in
theorem ggL_law_L_isFilled : GoodIn wsL_law wsL_isFilled := goodIn_ca (goodIn_ca (goodIn_r _ [228, 109, 49, 229, 230, 231, 2, 232, 115, 116, 117, 118, 119, 120, 56, 14, 59, 60, 61, 62, 63, 64, 65, 66, 233, 234, 235, 58, 236, 79, 78, 409, 410, 411, 412, 413, 414, 415, 416, 442, 443, 444, 445, 446, 447, 448, 449, 450, 451, 452, 453] (by decide +kernel) (by decide +kernel)) (goodIn_sub (fun _ h => List.mem_append_right _ h) (by decide +kernel))) (goodIn_sub (fun _ h => List.mem_append_left _ (List.mem_append_left _ (List.mem_append_right _ h))) (by decide +kernel))
set_option maxRecDepth 20000 in
theorem gL_law_L_isFilled : GoodIn wsL_law (va_wsS RL 106 yL_isFilled wsL_isFilled) := goodIn_app (goodIn_of _ (by decide +kernel)) ggL_law_L_isFilled
set_option maxRecDepth 20000 in
theorem ggL_law_X3_isFilled : GoodIn wsL_law wsX3_isFilled := goodIn_r _ [240, 134, 135, 136, 5, 137, 89, 93, 94, 95, 96, 97, 90, 91, 92, 98, 99, 100, 101, 241, 242, 243, 244, 160, 37, 34, 35, 36, 222, 223, 224, 225, 27, 28, 29, 30, 417, 418, 419, 420, 421, 422, 423, 424, 425, 426, 427, 428, 429, 430, 431, 432, 433, 434, 435, 436, 437, 438, 439, 440, 441] (by decide +kernel) (by decide +kernel)
set_option maxRecDepth 20000 in
theorem gL_law_X3_isFilled : GoodIn wsL_law (wsV RL 108 RX3 yX3_isFilled wsX3_isFilled) := goodIn_app (goodIn_of _ (by decide +kernel)) ggL_law_X3_isFilled
set_option maxRecDepth 20000 in
theorem ggL_law_L_pass : GoodIn wsL_law wsL_pass := goodIn_ca (goodIn_ca (goodIn_r _ [247, 49, 50, 248, 249, 250, 2, 251, 114, 59, 60, 61, 62, 63, 64, 65, 66, 67, 68, 69, 70, 71, 252, 253, 254, 255, 14, 19, 256, 257, 258, 58, 259, 76, 78, 260, 261, 262, 263, 80, 81, 264, 265, 266, 267, 268, 269, 77, 270, 271, 272, 273, 274, 234, 235, 236, 79, 409, 410, 411, 412, 413, 414, 415, 416, 442, 443, 444, 445, 446, 447, 448, 449, 450, 451, 452, 453] (by decide +kernel) (by decide +kernel)) (goodIn_sub (fun _ h => List.mem_append_left _ (List.mem_append_left _ (List.mem_append_right _ h))) (by decide +kernel))) (goodIn_sub (fun _ h => List.mem_append_left _ (List.mem_append_right _ h)) (by decide +kernel))
set_option maxRecDepth 20000 in
theorem gL_law_L_pass : GoodIn wsL_law (va_wsS RL 109 yL_pass wsL_pass) := goodIn_app (goodIn_of _ (by decide +kernel)) ggL_law_L_pass
