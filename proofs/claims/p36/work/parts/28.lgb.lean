set_option maxRecDepth 20000 in
theorem ggL_law_X7_pool : GoodIn wsL_law wsX7_pool := goodIn_ca (goodIn_ca (goodIn_r _ [327, 316, 220, 31, 317, 318, 2, 319, 93, 94, 95, 96, 97, 221, 222, 223, 224, 55, 56, 112, 328, 329, 330, 37, 331, 332, 333, 334, 335, 473, 474, 475, 476, 477, 478, 479, 480, 481, 482, 483, 484, 485, 486, 489, 490, 491, 492, 493, 494, 495] (by decide +kernel) (by decide +kernel)) (goodIn_sub (fun _ h => List.mem_append_right _ h) (by decide +kernel))) (goodIn_sub (fun _ h => List.mem_append_left _ (List.mem_append_left _ (List.mem_append_right _ h))) (by decide +kernel))
set_option maxRecDepth 20000 in
theorem gL_law_X7_pool : GoodIn wsL_law (wsV RL 105 RX7 yX7_pool wsX7_pool) := goodIn_app (goodIn_of _ (by decide +kernel)) ggL_law_X7_pool
set_option maxRecDepth 20000 in
theorem ggL_law_X7_advance : GoodIn wsL_law wsX7_advance := goodIn_ca (goodIn_ca (goodIn_r _ [339, 55, 56, 315, 57, 21, 123, 31, 160, 317, 318, 2, 319, 93, 94, 95, 96, 97, 221, 222, 223, 224, 112, 473, 474, 475, 476, 477, 478, 479, 480, 481, 482, 483, 484, 485, 486, 496, 497, 498, 499, 500, 489, 490, 491, 492, 493, 494, 495] (by decide +kernel) (by decide +kernel)) (goodIn_sub (fun _ h => List.mem_append_left _ (List.mem_append_left _ (List.mem_append_right _ h))) (by decide +kernel))) (goodIn_sub (fun _ h => List.mem_append_right _ h) (by decide +kernel))
set_option maxRecDepth 20000 in
theorem gL_law_X7_advance : GoodIn wsL_law (wsV RL 108 RX7 yX7_advance wsX7_advance) := goodIn_app (goodIn_of _ (by decide +kernel)) ggL_law_X7_advance
set_option maxRecDepth 20000 in
theorem ggL_law_X7_further : GoodIn wsL_law wsX7_further := goodIn_ca (goodIn_ca (goodIn_r _ [343, 55, 56, 31, 166, 317, 318, 2, 319, 93, 94, 95, 96, 97, 221, 222, 223, 224, 112, 473, 474, 475, 476, 477, 478, 479, 480, 481, 482, 483, 484, 485, 486, 489, 490, 491, 492, 493, 494, 495] (by decide +kernel) (by decide +kernel)) (goodIn_sub (fun _ h => List.mem_append_left _ (List.mem_append_left _ (List.mem_append_right _ h))) (by decide +kernel))) (goodIn_sub (fun _ h => List.mem_append_right _ h) (by decide +kernel))
set_option maxRecDepth 20000 in
theorem gL_law_X7_further : GoodIn wsL_law (wsV RL 111 RX7 yX7_further wsX7_further) := goodIn_app (goodIn_of _ (by decide +kernel)) ggL_law_X7_further
set_option maxRecDepth 20000 in
theorem ggL_law_X7_rate : GoodIn wsL_law wsX7_rate := goodIn_ca (goodIn_ca (goodIn_ca (goodIn_r _ [347, 55, 56, 123, 348, 87, 88, 89, 2, 90, 91, 92, 57, 21, 317, 318, 319, 93, 94, 95, 96, 97, 221, 222, 223, 224, 31, 112, 496, 497, 498, 499, 500, 473, 474, 475, 476, 477, 478, 479, 480, 481, 482, 483, 484, 485, 486, 489, 490, 491, 492, 493, 494, 495] (by decide +kernel) (by decide +kernel)) (goodIn_sub (fun _ h => List.mem_append_left _ (List.mem_append_left _ (List.mem_append_right _ h))) (by decide +kernel))) (goodIn_sub (fun _ h => List.mem_append_left _ (List.mem_append_right _ h)) (by decide +kernel))) (goodIn_sub (fun _ h => List.mem_append_right _ h) (by decide +kernel))
set_option maxRecDepth 20000 in
theorem gL_law_X7_rate : GoodIn wsL_law (wsV RL 114 RX7 yX7_rate wsX7_rate) := goodIn_app (goodIn_of _ (by decide +kernel)) ggL_law_X7_rate
set_option maxRecDepth 20000 in
theorem ggL_law_L_due : GoodIn wsL_law wsL_due := goodIn_r _ [351, 10, 11, 352, 353, 72, 354] (by decide +kernel) (by decide +kernel)
set_option maxRecDepth 20000 in
theorem gL_law_L_due : GoodIn wsL_law (va_wsS RL 118 yL_due wsL_due) := goodIn_app (goodIn_of _ (by decide +kernel)) ggL_law_L_due
set_option maxRecDepth 20000 in
theorem ggL_law_L_weight : GoodIn wsL_law wsL_weight := goodIn_r _ [354, 11] (by decide +kernel) (by decide +kernel)
set_option maxRecDepth 20000 in
theorem gL_law_L_weight : GoodIn wsL_law (va_wsS RL 24 yL_weight wsL_weight) := goodIn_app (goodIn_of _ (by decide +kernel)) ggL_law_L_weight
set_option maxRecDepth 20000 in
theorem ggL_law_X7_pay : GoodIn wsL_law wsX7_pay := goodIn_ca (goodIn_ca (goodIn_r _ [358, 359, 177, 172, 87, 88, 89, 2, 90, 91, 92, 57, 21, 93, 94, 95, 96, 97, 173, 174, 175, 176, 162, 163, 164, 165, 31, 112, 123, 155, 166, 154, 156, 157, 158, 159, 160, 161, 124, 125, 126, 127, 128, 25, 129, 117, 130, 131, 132, 133, 134, 135, 136, 137, 138, 139, 140, 141, 142, 143, 144, 145, 146, 147, 59, 148, 64, 149, 496, 497, 498, 499, 500, 473, 474, 475, 476, 477, 478, 479, 480, 481, 482, 483, 484, 485, 486, 489, 490, 491, 492, 493, 494, 495, 505, 506, 507, 501, 502, 503, 504] (by decide +kernel) (by decide +kernel)) (goodIn_sub (fun _ h => List.mem_append_left _ (List.mem_append_right _ h)) (by decide +kernel))) (goodIn_sub (fun _ h => List.mem_append_right _ h) (by decide +kernel))
set_option maxRecDepth 20000 in
theorem gL_law_X7_pay : GoodIn wsL_law (wsV RL 123 RX7 yX7_pay wsX7_pay) := goodIn_app (goodIn_of _ (by decide +kernel)) ggL_law_X7_pay
set_option maxRecDepth 20000 in
theorem ggL_law_L_cost : GoodIn wsL_law wsL_cost := goodIn_r _ [362, 363, 364, 72, 365, 366, 11, 367, 368, 369] (by decide +kernel) (by decide +kernel)
set_option maxRecDepth 20000 in
theorem gL_law_L_cost : GoodIn wsL_law (va_wsS RL 126 yL_cost wsL_cost) := goodIn_app (goodIn_of _ (by decide +kernel)) ggL_law_L_cost
set_option maxRecDepth 20000 in
theorem ggL_law_L_closed : GoodIn wsL_law wsL_closed := goodIn_ca (goodIn_ca (goodIn_r _ [372, 107, 13, 373, 374, 375, 2, 376, 229, 27, 262, 208, 274, 31, 112, 317, 318, 319, 93, 94, 95, 96, 97, 377, 378, 379, 380, 55, 56, 171, 264, 221, 222, 223, 224, 190, 191, 192, 381, 382, 383, 384, 213, 29, 385, 386, 387, 388, 389, 390, 391, 392, 35, 393, 394, 395, 396, 397, 398, 399, 400, 247, 401, 256, 253, 254, 270, 271, 272, 273, 275, 117, 276, 277, 278, 59, 279, 68, 280, 281, 282, 283, 128, 25, 129, 284, 285, 286, 134, 287, 136, 141, 402, 403, 404, 405, 288, 289, 290, 291, 292, 255, 293, 294, 143, 139, 144, 406, 407, 408, 34, 409, 43, 410, 411, 412, 42, 413, 414, 415, 416, 417, 418, 419, 37, 420, 332, 333, 334, 421, 335, 422, 423, 424, 425, 426, 427, 57, 21, 123, 155, 428, 429, 430, 431, 432, 119, 120, 121, 122, 124, 125, 126, 127, 130, 131, 132, 133, 135, 137, 138, 140, 142, 145, 146, 147, 148, 64, 149, 433, 434, 435, 436, 437, 438, 439, 440, 473, 474, 475, 476, 477, 478, 479, 480, 481, 482, 483, 484, 485, 486, 511, 512, 513, 514, 515, 516, 517, 518, 508, 509, 510, 489, 490, 491, 492, 493, 494, 495, 501, 502, 503, 504, 496, 497, 498, 499, 500, 505, 506, 507, 487, 488] (by decide +kernel) (by decide +kernel)) (goodIn_sub (fun _ h => List.mem_append_right _ h) (by decide +kernel))) (goodIn_sub (fun _ h => List.mem_append_left _ (List.mem_append_left _ (List.mem_append_right _ h))) (by decide +kernel))
set_option maxRecDepth 20000 in
theorem gL_law_L_closed : GoodIn wsL_law (va_wsS RL 130 yL_closed wsL_closed) := goodIn_app (goodIn_of _ (by decide +kernel)) ggL_law_L_closed
set_option maxRecDepth 20000 in
theorem ggL_law_L_covered : GoodIn wsL_law wsL_covered := goodIn_r _ [369] (by decide +kernel) (by decide +kernel)
set_option maxRecDepth 20000 in
theorem gL_law_L_covered : GoodIn wsL_law (va_wsS RL 12 yL_covered wsL_covered) := goodIn_app (goodIn_of _ (by decide +kernel)) ggL_law_L_covered
set_option maxRecDepth 20000 in
theorem ggL_law_X7_pass : GoodIn wsL_law wsX7_pass := goodIn_ca (goodIn_ca (goodIn_r _ [444, 55, 56, 171, 93, 94, 2, 95, 96, 97, 473, 474, 475, 476, 477, 478, 479, 480, 481, 482, 483, 484, 485, 486] (by decide +kernel) (by decide +kernel)) (goodIn_sub (fun _ h => List.mem_append_left _ (List.mem_append_left _ (List.mem_append_right _ h))) (by decide +kernel))) (goodIn_sub (fun _ h => List.mem_append_right _ h) (by decide +kernel))
set_option maxRecDepth 20000 in
theorem gL_law_X7_pass : GoodIn wsL_law (wsV RL 134 RX7 yX7_pass wsX7_pass) := goodIn_app (goodIn_of _ (by decide +kernel)) ggL_law_X7_pass
set_option maxRecDepth 20000 in
theorem ggL_law_X7_due : GoodIn wsL_law wsX7_due := goodIn_ca (goodIn_ca (goodIn_r _ [448, 87, 88, 89, 2, 90, 91, 92, 57, 21, 317, 318, 319, 93, 94, 95, 96, 97, 162, 163, 164, 165, 31, 112, 123, 155, 166, 154, 156, 157, 158, 159, 160, 161, 124, 125, 126, 127, 128, 25, 129, 117, 130, 131, 132, 133, 134, 135, 136, 137, 138, 139, 140, 141, 142, 143, 144, 145, 146, 147, 59, 148, 64, 149, 473, 474, 475, 476, 477, 478, 479, 480, 481, 482, 483, 484, 485, 486, 489, 490, 491, 492, 493, 494, 495, 496, 497, 498, 499, 500, 505, 506, 507, 501, 502, 503, 504] (by decide +kernel) (by decide +kernel)) (goodIn_sub (fun _ h => List.mem_append_left _ (List.mem_append_right _ h)) (by decide +kernel))) (goodIn_sub (fun _ h => List.mem_append_right _ h) (by decide +kernel))
set_option maxRecDepth 20000 in
theorem gL_law_X7_due : GoodIn wsL_law (wsV RL 137 RX7 yX7_due wsX7_due) := goodIn_app (goodIn_of _ (by decide +kernel)) ggL_law_X7_due
