set_option maxRecDepth 20000 in
theorem ggL_law_X7_weight : GoodIn wsL_law wsX7_weight := goodIn_ca (goodIn_ca (goodIn_r _ [452, 87, 88, 89, 2, 90, 91, 92, 57, 21, 317, 318, 319, 93, 94, 95, 96, 97, 124, 125, 126, 127, 128, 25, 129, 117, 130, 131, 132, 133, 134, 135, 136, 137, 138, 139, 140, 141, 142, 143, 144, 145, 146, 147, 59, 148, 64, 149, 473, 474, 475, 476, 477, 478, 479, 480, 481, 482, 483, 484, 485, 486, 505, 506, 507, 501, 502, 503, 504, 496, 497, 498, 499, 500] (by decide +kernel) (by decide +kernel)) (goodIn_sub (fun _ h => List.mem_append_left _ (List.mem_append_right _ h)) (by decide +kernel))) (goodIn_sub (fun _ h => List.mem_append_right _ h) (by decide +kernel))
set_option maxRecDepth 20000 in
theorem gL_law_X7_weight : GoodIn wsL_law (wsV RL 139 RX7 yX7_weight wsX7_weight) := goodIn_app (goodIn_of _ (by decide +kernel)) ggL_law_X7_weight
set_option maxRecDepth 20000 in
theorem ggL_law_X7_owes : GoodIn wsL_law wsX7_owes := goodIn_ca (goodIn_r _ [456, 87, 88, 89, 2, 90, 91, 92, 57, 21, 173, 174, 175, 176, 177, 162, 163, 164, 165, 31, 112, 123, 155, 166, 154, 156, 157, 158, 159, 160, 161, 124, 125, 126, 127, 128, 25, 129, 117, 130, 131, 132, 133, 134, 135, 136, 137, 138, 139, 140, 141, 142, 143, 144, 145, 146, 147, 59, 148, 64, 149, 473, 474, 475, 476, 477, 478, 479, 480, 481, 482, 483, 484, 485, 486, 496, 497, 498, 499, 500, 489, 490, 491, 492, 493, 494, 495, 505, 506, 507, 501, 502, 503, 504] (by decide +kernel) (by decide +kernel)) (goodIn_sub (fun _ h => List.mem_append_left _ (List.mem_append_right _ h)) (by decide +kernel))
set_option maxRecDepth 20000 in
theorem gL_law_X7_owes : GoodIn wsL_law (wsV RL 141 RX7 yX7_owes wsX7_owes) := goodIn_app (goodIn_of _ (by decide +kernel)) ggL_law_X7_owes
set_option maxRecDepth 20000 in
theorem ggL_law_X7_ofEvent : GoodIn wsL_law wsX7_ofEvent := goodIn_ca (goodIn_ca (goodIn_r _ [460, 208, 248, 209, 210, 211, 2, 212, 91, 92, 213, 29, 93, 94, 95, 96, 97, 389, 390, 391, 392, 229, 27, 262, 35, 393, 190, 191, 192, 394, 395, 396, 397, 398, 399, 400, 247, 401, 256, 253, 254, 270, 271, 272, 273, 31, 112, 274, 275, 117, 276, 277, 278, 59, 279, 68, 280, 281, 282, 283, 128, 25, 129, 284, 285, 286, 134, 287, 136, 141, 402, 403, 404, 405, 288, 289, 290, 291, 292, 255, 293, 294, 143, 139, 144, 406, 407, 408, 34, 409, 43, 410, 411, 412, 42, 413, 414, 415, 416, 385, 386, 387, 388, 417, 418, 419, 37, 420, 332, 333, 334, 421, 335, 422, 423, 508, 509, 510, 473, 474, 475, 476, 477, 478, 479, 480, 481, 482, 483, 484, 485, 486, 511, 512, 513, 514, 515, 516, 517, 518, 489, 490, 491, 492, 493, 494, 495, 501, 502, 503, 504, 496, 497, 498, 499, 500, 505, 506, 507, 487, 488] (by decide +kernel) (by decide +kernel)) (goodIn_sub (fun _ h => List.mem_append_left _ (List.mem_append_right _ h)) (by decide +kernel))) (goodIn_sub (fun _ h => List.mem_append_right _ h) (by decide +kernel))
set_option maxRecDepth 20000 in
theorem gL_law_X7_ofEvent : GoodIn wsL_law (wsV RL 144 RX7 yX7_ofEvent wsX7_ofEvent) := goodIn_app (goodIn_of _ (by decide +kernel)) ggL_law_X7_ofEvent
set_option maxRecDepth 20000 in
theorem ggL_law_L_bears : GoodIn wsL_law wsL_bears := goodIn_r _ [365, 366, 11, 367, 368, 72, 369] (by decide +kernel) (by decide +kernel)
set_option maxRecDepth 20000 in
theorem gL_law_L_bears : GoodIn wsL_law (va_wsS RL 20 yL_bears wsL_bears) := goodIn_app (goodIn_of _ (by decide +kernel)) ggL_law_L_bears
set_option maxRecDepth 20000 in
theorem ggL_law_X7_cost : GoodIn wsL_law wsX7_cost := goodIn_ca (goodIn_r _ [464, 317, 318, 2, 319, 93, 94, 95, 96, 97, 381, 382, 383, 384, 213, 29, 208, 190, 191, 192, 385, 386, 387, 388, 31, 389, 390, 391, 392, 229, 27, 262, 35, 393, 394, 395, 396, 397, 398, 399, 400, 247, 401, 256, 253, 254, 270, 271, 272, 273, 112, 274, 275, 117, 276, 277, 278, 59, 279, 68, 280, 281, 282, 283, 128, 25, 129, 284, 285, 286, 134, 287, 136, 141, 402, 403, 404, 405, 288, 289, 290, 291, 292, 255, 293, 294, 143, 139, 144, 406, 407, 408, 34, 409, 43, 410, 411, 412, 42, 413, 414, 415, 416, 417, 418, 419, 37, 420, 332, 333, 334, 421, 335, 422, 423, 473, 474, 475, 476, 477, 478, 479, 480, 481, 482, 483, 484, 485, 486, 508, 509, 510, 511, 512, 513, 514, 515, 516, 517, 518, 489, 490, 491, 492, 493, 494, 495, 501, 502, 503, 504, 496, 497, 498, 499, 500, 505, 506, 507, 487, 488] (by decide +kernel) (by decide +kernel)) (goodIn_sub (fun _ h => List.mem_append_right _ h) (by decide +kernel))
set_option maxRecDepth 20000 in
theorem gL_law_X7_cost : GoodIn wsL_law (wsV RL 147 RX7 yX7_cost wsX7_cost) := goodIn_app (goodIn_of _ (by decide +kernel)) ggL_law_X7_cost
set_option maxRecDepth 20000 in
theorem ggL_law_X7_isClosed : GoodIn wsL_law wsX7_isClosed := goodIn_ca (goodIn_r _ [468, 31, 112, 317, 318, 2, 319, 93, 94, 95, 96, 97, 473, 474, 475, 476, 477, 478, 479, 480, 481, 482, 483, 484, 485, 486, 489, 490, 491, 492, 493, 494, 495] (by decide +kernel) (by decide +kernel)) (goodIn_sub (fun _ h => List.mem_append_right _ h) (by decide +kernel))
set_option maxRecDepth 20000 in
theorem gL_law_X7_isClosed : GoodIn wsL_law (wsV RL 149 RX7 yX7_isClosed wsX7_isClosed) := goodIn_app (goodIn_of _ (by decide +kernel)) ggL_law_X7_isClosed
set_option maxRecDepth 20000 in
theorem ggL_law_X7_reserve : GoodIn wsL_law wsX7_reserve := goodIn_r _ [472, 432, 473, 474, 475, 476, 477, 478, 479, 480, 481, 482, 483, 484, 485, 486] (by decide +kernel) (by decide +kernel)
set_option maxRecDepth 20000 in
theorem gL_law_X7_reserve : GoodIn wsL_law (wsV RL 153 RX7 yX7_reserve wsX7_reserve) := goodIn_app (goodIn_of _ (by decide +kernel)) ggL_law_X7_reserve
