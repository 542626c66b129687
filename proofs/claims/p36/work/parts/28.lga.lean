set_option maxRecDepth 20000 in
theorem ggL_law_X7_init : GoodIn wsL_law wsX7_init := goodIn_r _ [16, 17, 18, 19, 20, 21, 22, 23, 24, 25, 26, 27, 28, 29, 30, 31, 32, 33, 34, 35, 36, 37, 38, 39, 40, 41, 3, 42, 43, 44, 45, 46, 47, 48, 49, 50, 473, 474, 475, 476, 477, 478, 479, 480, 481, 482, 483, 484, 485, 486, 487, 488, 489, 490, 491, 492, 493, 494, 495] (by decide +kernel) (by decide +kernel)
set_option maxRecDepth 20000 in
theorem gL_law_X7_init : GoodIn wsL_law (wsX7_init) := ggL_law_X7_init
set_option maxRecDepth 20000 in
theorem ggL_law_X7_member : GoodIn wsL_law wsX7_member := goodIn_ca (goodIn_r _ [54, 55, 56, 57, 21, 20, 58, 59, 60, 61, 62, 63, 18, 19, 3, 64, 65, 66, 4, 67, 68, 69, 45, 46, 47, 473, 474, 475, 476, 477, 478, 479, 480, 481, 482, 483, 484, 485, 486, 496, 497, 498, 499, 500] (by decide +kernel) (by decide +kernel)) (goodIn_sub (fun _ h => List.mem_append_left _ (List.mem_append_left _ (List.mem_append_right _ h))) (by decide +kernel))
set_option maxRecDepth 20000 in
theorem gL_law_X7_member : GoodIn wsL_law (wsV RL 60 RX7 yX7_member wsX7_member) := goodIn_app (goodIn_of _ (by decide +kernel)) ggL_law_X7_member
set_option maxRecDepth 20000 in
theorem ggL_law_L_cell : GoodIn wsL_law wsL_cell := goodIn_r _ [73, 74, 75] (by decide +kernel) (by decide +kernel)
set_option maxRecDepth 20000 in
theorem gL_law_L_cell : GoodIn wsL_law (va_wsS RL 64 yL_cell wsL_cell) := goodIn_app (goodIn_of _ (by decide +kernel)) ggL_law_L_cell
set_option maxRecDepth 20000 in
theorem ggL_law_L_low : GoodIn wsL_law wsL_low := goodIn_r _ [78, 79] (by decide +kernel) (by decide +kernel)
set_option maxRecDepth 20000 in
theorem gL_law_L_low : GoodIn wsL_law (va_wsS RL 68 yL_low wsL_low) := goodIn_app (goodIn_of _ (by decide +kernel)) ggL_law_L_low
set_option maxRecDepth 20000 in
theorem ggL_law_X7_ship : GoodIn wsL_law wsX7_ship := goodIn_ca (goodIn_ca (goodIn_ca (goodIn_r _ [83, 55, 56, 84, 23, 22, 85, 86, 87, 88, 89, 2, 90, 91, 92, 57, 21, 93, 94, 95, 96, 97, 98, 99, 100, 101, 18, 19, 102, 103, 473, 474, 475, 476, 477, 478, 479, 480, 481, 482, 483, 484, 485, 486, 501, 502, 503, 504] (by decide +kernel) (by decide +kernel)) (goodIn_sub (fun _ h => List.mem_append_left _ (List.mem_append_left _ (List.mem_append_right _ h))) (by decide +kernel))) (goodIn_sub (fun _ h => List.mem_append_left _ (List.mem_append_right _ h)) (by decide +kernel))) (goodIn_sub (fun _ h => List.mem_append_right _ h) (by decide +kernel))
set_option maxRecDepth 20000 in
theorem gL_law_X7_ship : GoodIn wsL_law (wsV RL 71 RX7 yX7_ship wsX7_ship) := goodIn_app (goodIn_of _ (by decide +kernel)) ggL_law_X7_ship
set_option maxRecDepth 20000 in
theorem ggL_law_L_tried : GoodIn wsL_law wsL_tried := goodIn_ca (goodIn_ca (goodIn_ca (goodIn_r _ [106, 107, 108, 109, 110, 2, 111, 55, 56, 31, 112, 87, 88, 89, 90, 91, 92, 57, 21, 93, 94, 95, 96, 97, 113, 114, 115, 116, 84, 23, 117, 118, 119, 120, 121, 122, 123, 124, 125, 126, 127, 128, 25, 129, 130, 131, 132, 133, 134, 135, 136, 137, 138, 139, 140, 141, 142, 143, 144, 145, 146, 147, 59, 148, 64, 149, 150, 151, 152, 153, 154, 155, 156, 157, 158, 159, 160, 161, 162, 163, 164, 165, 166, 167, 168, 169, 170, 171, 172, 173, 174, 175, 176, 177, 178, 179, 72, 180, 181, 182, 183, 184, 24, 185, 186, 187, 188, 189, 190, 191, 192, 193, 194, 195, 196, 18, 19, 197, 198, 199, 200, 201, 202, 203, 473, 474, 475, 476, 477, 478, 479, 480, 481, 482, 483, 484, 485, 486, 489, 490, 491, 492, 493, 494, 495, 501, 502, 503, 504, 496, 497, 498, 499, 500, 505, 506, 507] (by decide +kernel) (by decide +kernel)) (goodIn_sub (fun _ h => List.mem_append_left _ (List.mem_append_left _ (List.mem_append_right _ h))) (by decide +kernel))) (goodIn_sub (fun _ h => List.mem_append_left _ (List.mem_append_right _ h)) (by decide +kernel))) (goodIn_sub (fun _ h => List.mem_append_right _ h) (by decide +kernel))
set_option maxRecDepth 20000 in
theorem gL_law_L_tried : GoodIn wsL_law (va_wsS RL 74 yL_tried wsL_tried) := goodIn_app (goodIn_of _ (by decide +kernel)) ggL_law_L_tried
set_option maxRecDepth 20000 in
theorem ggL_law_X7_claim : GoodIn wsL_law wsX7_claim := goodIn_ca (goodIn_ca (goodIn_ca (goodIn_r _ [207, 96, 97, 171, 208, 186, 187, 188, 2, 189, 91, 92, 84, 23, 209, 210, 211, 212, 213, 29, 214, 215, 216, 93, 94, 95, 217, 218, 219, 220, 190, 191, 192, 221, 222, 223, 224, 55, 56, 31, 112, 225, 226, 227, 228, 229, 230, 231, 232, 233, 28, 234, 235, 236, 237, 238, 239, 18, 19, 240, 241, 242, 243, 244, 245, 27, 26, 246, 247, 248, 249, 250, 251, 252, 253, 254, 255, 256, 473, 474, 475, 476, 477, 478, 479, 480, 481, 482, 483, 484, 485, 486, 508, 509, 510, 489, 490, 491, 492, 493, 494, 495, 511, 512, 513, 514, 515, 516, 517, 518] (by decide +kernel) (by decide +kernel)) (goodIn_sub (fun _ h => List.mem_append_right _ h) (by decide +kernel))) (goodIn_sub (fun _ h => List.mem_append_left _ (List.mem_append_right _ h)) (by decide +kernel))) (goodIn_sub (fun _ h => List.mem_append_left _ (List.mem_append_left _ (List.mem_append_right _ h))) (by decide +kernel))
set_option maxRecDepth 20000 in
theorem gL_law_X7_claim : GoodIn wsL_law (wsV RL 79 RX7 yX7_claim wsX7_claim) := goodIn_app (goodIn_of _ (by decide +kernel)) ggL_law_X7_claim
set_option maxRecDepth 20000 in
theorem ggL_law_X7_ofClaim : GoodIn wsL_law wsX7_ofClaim := goodIn_ca (goodIn_ca (goodIn_r _ [260, 261, 262, 263, 264, 265, 266, 267, 268, 2, 269, 91, 92, 229, 27, 93, 94, 95, 96, 97, 270, 271, 272, 273, 208, 31, 112, 274, 275, 117, 190, 191, 192, 276, 277, 278, 59, 279, 68, 280, 281, 282, 283, 128, 25, 129, 284, 285, 286, 134, 287, 136, 141, 288, 289, 290, 247, 291, 292, 255, 253, 293, 294, 143, 139, 144, 511, 512, 513, 514, 515, 516, 517, 518, 508, 509, 510, 473, 474, 475, 476, 477, 478, 479, 480, 481, 482, 483, 484, 485, 486, 489, 490, 491, 492, 493, 494, 495, 501, 502, 503, 504, 496, 497, 498, 499, 500, 505, 506, 507] (by decide +kernel) (by decide +kernel)) (goodIn_sub (fun _ h => List.mem_append_left _ (List.mem_append_right _ h)) (by decide +kernel))) (goodIn_sub (fun _ h => List.mem_append_right _ h) (by decide +kernel))
set_option maxRecDepth 20000 in
theorem gL_law_X7_ofClaim : GoodIn wsL_law (wsV RL 83 RX7 yX7_ofClaim wsX7_ofClaim) := goodIn_app (goodIn_of _ (by decide +kernel)) ggL_law_X7_ofClaim
set_option maxRecDepth 20000 in
theorem ggL_law_X7_broken : GoodIn wsL_law wsX7_broken := goodIn_ca (goodIn_ca (goodIn_r _ [298, 55, 56, 299, 266, 267, 268, 2, 269, 91, 92, 229, 27, 300, 301, 302, 264, 511, 512, 513, 514, 515, 516, 517, 518, 473, 474, 475, 476, 477, 478, 479, 480, 481, 482, 483, 484, 485, 486] (by decide +kernel) (by decide +kernel)) (goodIn_sub (fun _ h => List.mem_append_left _ (List.mem_append_left _ (List.mem_append_right _ h))) (by decide +kernel))) (goodIn_sub (fun _ h => List.mem_append_left _ (List.mem_append_right _ h)) (by decide +kernel))
set_option maxRecDepth 20000 in
theorem gL_law_X7_broken : GoodIn wsL_law (wsV RL 87 RX7 yX7_broken wsX7_broken) := goodIn_app (goodIn_of _ (by decide +kernel)) ggL_law_X7_broken
set_option maxRecDepth 20000 in
theorem ggL_law_X7_estimate : GoodIn wsL_law wsX7_estimate := goodIn_ca (goodIn_ca (goodIn_ca (goodIn_r _ [306, 261, 266, 267, 268, 2, 269, 91, 92, 229, 27, 217, 218, 219, 220, 93, 94, 95, 96, 97, 300, 301, 302, 55, 56, 264, 511, 512, 513, 514, 515, 516, 517, 518, 473, 474, 475, 476, 477, 478, 479, 480, 481, 482, 483, 484, 485, 486] (by decide +kernel) (by decide +kernel)) (goodIn_sub (fun _ h => List.mem_append_left _ (List.mem_append_right _ h)) (by decide +kernel))) (goodIn_sub (fun _ h => List.mem_append_right _ h) (by decide +kernel))) (goodIn_sub (fun _ h => List.mem_append_left _ (List.mem_append_left _ (List.mem_append_right _ h))) (by decide +kernel))
set_option maxRecDepth 20000 in
theorem gL_law_X7_estimate : GoodIn wsL_law (wsV RL 91 RX7 yX7_estimate wsX7_estimate) := goodIn_app (goodIn_of _ (by decide +kernel)) ggL_law_X7_estimate
set_option maxRecDepth 20000 in
theorem ggL_law_X7_settle : GoodIn wsL_law wsX7_settle := goodIn_ca (goodIn_ca (goodIn_r _ [310, 264, 261, 266, 267, 268, 2, 269, 91, 92, 229, 27, 300, 301, 302, 55, 56, 511, 512, 513, 514, 515, 516, 517, 518, 473, 474, 475, 476, 477, 478, 479, 480, 481, 482, 483, 484, 485, 486] (by decide +kernel) (by decide +kernel)) (goodIn_sub (fun _ h => List.mem_append_left _ (List.mem_append_right _ h)) (by decide +kernel))) (goodIn_sub (fun _ h => List.mem_append_left _ (List.mem_append_left _ (List.mem_append_right _ h))) (by decide +kernel))
set_option maxRecDepth 20000 in
theorem gL_law_X7_settle : GoodIn wsL_law (wsV RL 94 RX7 yX7_settle wsX7_settle) := goodIn_app (goodIn_of _ (by decide +kernel)) ggL_law_X7_settle
set_option maxRecDepth 20000 in
theorem ggL_law_X7_rule : GoodIn wsL_law wsX7_rule := goodIn_ca (goodIn_ca (goodIn_r _ [314, 315, 316, 35, 214, 215, 2, 216, 93, 94, 95, 96, 97, 317, 318, 319, 221, 222, 223, 224, 55, 56, 31, 112, 320, 321, 322, 34, 323, 42, 43, 473, 474, 475, 476, 477, 478, 479, 480, 481, 482, 483, 484, 485, 486, 489, 490, 491, 492, 493, 494, 495, 487, 488] (by decide +kernel) (by decide +kernel)) (goodIn_sub (fun _ h => List.mem_append_right _ h) (by decide +kernel))) (goodIn_sub (fun _ h => List.mem_append_left _ (List.mem_append_left _ (List.mem_append_right _ h))) (by decide +kernel))
set_option maxRecDepth 20000 in
theorem gL_law_X7_rule : GoodIn wsL_law (wsV RL 99 RX7 yX7_rule wsX7_rule) := goodIn_app (goodIn_of _ (by decide +kernel)) ggL_law_X7_rule
