set_option maxRecDepth 20000 in
theorem ggL_law_X2_init : GoodIn wsL_law wsX2_init := goodIn_r _ [9, 10, 11, 12, 13, 14, 15, 16, 17, 6, 18, 19, 20, 21, 22, 23, 24, 25, 26, 27, 28, 29, 30, 31, 32, 33, 34, 35, 36, 37, 38, 39, 40, 41, 42, 43, 44, 45, 46, 456, 457, 458, 459, 460, 461, 462, 463, 464, 465, 466, 467, 492, 493, 494, 495, 496, 497, 498, 499] (by decide +kernel) (by decide +kernel)
set_option maxRecDepth 20000 in
theorem gL_law_X2_init : GoodIn wsL_law (wsX2_init) := ggL_law_X2_init
set_option maxRecDepth 20000 in
theorem ggL_law_X3_init : GoodIn wsL_law wsX3_init := goodIn_r _ [49, 50, 11, 12, 13, 51, 52, 53, 54, 6, 55, 56, 35, 57, 58, 59, 60, 61, 62, 63, 64, 65, 66, 67, 68, 69, 70, 71, 468, 469, 470, 471, 472, 473, 474, 475, 476, 477, 478, 479, 480, 481, 482, 483, 484, 485, 486, 487, 488, 489, 490, 491] (by decide +kernel) (by decide +kernel)
set_option maxRecDepth 20000 in
theorem gL_law_X3_init : GoodIn wsL_law (wsX3_init) := ggL_law_X3_init
set_option maxRecDepth 20000 in
theorem ggL_law_L_add : GoodIn wsL_law wsL_add := goodIn_ca (goodIn_ca (goodIn_r _ [75, 76, 77, 78, 79, 80, 2, 81, 82, 83, 30, 14, 15, 16, 17, 84, 85, 86, 87, 88, 89, 90, 91, 92, 27, 93, 94, 95, 96, 97, 26, 98, 99, 43, 44, 45, 46, 456, 457, 458, 459, 460, 461, 462, 463, 464, 465, 466, 467, 496, 497, 498, 499] (by decide +kernel) (by decide +kernel)) (goodIn_sub (fun _ h => List.mem_append_left _ (List.mem_append_left _ (List.mem_append_right _ h))) (by decide +kernel))) (goodIn_sub (fun _ h => List.mem_append_left _ (List.mem_append_right _ h)) (by decide +kernel))
set_option maxRecDepth 20000 in
theorem gL_law_L_add : GoodIn wsL_law (va_wsS RL 76 yL_add wsL_add) := goodIn_app (goodIn_of _ (by decide +kernel)) ggL_law_L_add
set_option maxRecDepth 20000 in
theorem ggL_law_X3_add : GoodIn wsL_law wsX3_add := goodIn_r _ [103, 71, 104, 51, 52, 53, 54, 105, 106, 5, 107, 108, 109, 110, 111, 60, 61, 62, 63, 64, 468, 469, 470, 471, 472, 473, 474, 475, 476, 477, 478, 479, 480, 481, 482, 483, 484, 485, 486, 487, 488, 489, 490, 491] (by decide +kernel) (by decide +kernel)
set_option maxRecDepth 20000 in
theorem gL_law_X3_add : GoodIn wsL_law (wsV RL 81 RX3 yX3_add wsX3_add) := goodIn_app (goodIn_of _ (by decide +kernel)) ggL_law_X3_add
set_option maxRecDepth 20000 in
theorem ggL_law_L_setClock : GoodIn wsL_law wsL_setClock := goodIn_ca (goodIn_ca (goodIn_r _ [114, 115, 76, 116, 117, 118, 2, 119, 15, 16, 120, 121, 122, 123, 124, 125, 126, 127, 128, 129, 30, 84, 85, 86, 87, 88, 456, 457, 458, 459, 460, 461, 462, 463, 464, 465, 466, 467] (by decide +kernel) (by decide +kernel)) (goodIn_sub (fun _ h => List.mem_append_right _ h) (by decide +kernel))) (goodIn_sub (fun _ h => List.mem_append_left _ (List.mem_append_right _ h)) (by decide +kernel))
set_option maxRecDepth 20000 in
theorem gL_law_L_setClock : GoodIn wsL_law (va_wsS RL 82 yL_setClock wsL_setClock) := goodIn_app (goodIn_of _ (by decide +kernel)) ggL_law_L_setClock
set_option maxRecDepth 20000 in
theorem ggL_law_X3_setClock : GoodIn wsL_law wsX3_setClock := goodIn_r _ [133, 104, 52, 53, 134, 135, 136, 5, 137, 71, 105, 106, 107, 468, 469, 470, 471, 472, 473, 474, 475, 476, 477, 478, 479, 480, 481, 482, 483, 484, 485, 486, 487, 488, 489, 490, 491] (by decide +kernel) (by decide +kernel)
set_option maxRecDepth 20000 in
theorem gL_law_X3_setClock : GoodIn wsL_law (wsV RL 85 RX3 yX3_setClock wsX3_setClock) := goodIn_app (goodIn_of _ (by decide +kernel)) ggL_law_X3_setClock
set_option maxRecDepth 20000 in
theorem ggL_law_L_setDrift : GoodIn wsL_law wsL_setDrift := goodIn_ca (goodIn_ca (goodIn_r _ [140, 115, 76, 141, 142, 143, 2, 144, 17, 120, 121, 122, 123, 124, 125, 126, 127, 128, 129, 30, 84, 85, 86, 87, 88, 456, 457, 458, 459, 460, 461, 462, 463, 464, 465, 466, 467] (by decide +kernel) (by decide +kernel)) (goodIn_sub (fun _ h => List.mem_append_right _ h) (by decide +kernel))) (goodIn_sub (fun _ h => List.mem_append_left _ (List.mem_append_right _ h)) (by decide +kernel))
set_option maxRecDepth 20000 in
theorem gL_law_L_setDrift : GoodIn wsL_law (va_wsS RL 86 yL_setDrift wsL_setDrift) := goodIn_app (goodIn_of _ (by decide +kernel)) ggL_law_L_setDrift
set_option maxRecDepth 20000 in
theorem ggL_law_X3_setDrift : GoodIn wsL_law wsX3_setDrift := goodIn_r _ [148, 104, 54, 134, 135, 136, 5, 137, 71, 105, 106, 107, 468, 469, 470, 471, 472, 473, 474, 475, 476, 477, 478, 479, 480, 481, 482, 483, 484, 485, 486, 487, 488, 489, 490, 491] (by decide +kernel) (by decide +kernel)
set_option maxRecDepth 20000 in
theorem gL_law_X3_setDrift : GoodIn wsL_law (wsV RL 89 RX3 yX3_setDrift wsX3_setDrift) := goodIn_app (goodIn_of _ (by decide +kernel)) ggL_law_X3_setDrift
set_option maxRecDepth 20000 in
theorem ggL_law_L_setOffset : GoodIn wsL_law wsL_setOffset := goodIn_ca (goodIn_ca (goodIn_r _ [151, 115, 76, 152, 153, 154, 2, 155, 156, 157, 18, 120, 121, 122, 123, 124, 125, 126, 127, 128, 129, 30, 84, 85, 86, 87, 88, 456, 457, 458, 459, 460, 461, 462, 463, 464, 465, 466, 467] (by decide +kernel) (by decide +kernel)) (goodIn_sub (fun _ h => List.mem_append_right _ h) (by decide +kernel))) (goodIn_sub (fun _ h => List.mem_append_left _ (List.mem_append_right _ h)) (by decide +kernel))
set_option maxRecDepth 20000 in
theorem gL_law_L_setOffset : GoodIn wsL_law (va_wsS RL 90 yL_setOffset wsL_setOffset) := goodIn_app (goodIn_of _ (by decide +kernel)) ggL_law_L_setOffset
set_option maxRecDepth 20000 in
theorem ggL_law_X3_setOffset : GoodIn wsL_law wsX3_setOffset := goodIn_r _ [161, 162, 163, 104, 55, 134, 135, 136, 5, 137, 71, 105, 106, 107, 468, 469, 470, 471, 472, 473, 474, 475, 476, 477, 478, 479, 480, 481, 482, 483, 484, 485, 486, 487, 488, 489, 490, 491] (by decide +kernel) (by decide +kernel)
set_option maxRecDepth 20000 in
theorem gL_law_X3_setOffset : GoodIn wsL_law (wsV RL 92 RX3 yX3_setOffset wsX3_setOffset) := goodIn_app (goodIn_of _ (by decide +kernel)) ggL_law_X3_setOffset
set_option maxRecDepth 20000 in
theorem ggL_law_L_link : GoodIn wsL_law wsL_link := goodIn_ca (goodIn_ca (goodIn_ca (goodIn_r _ [166, 115, 76, 77, 167, 168, 169, 2, 170, 87, 88, 82, 83, 171, 23, 120, 121, 122, 123, 124, 125, 126, 127, 128, 129, 30, 84, 85, 86, 172, 22, 173, 174, 36, 175, 176, 177, 178, 179, 180, 37, 39, 181, 182, 183, 184, 38, 456, 457, 458, 459, 460, 461, 462, 463, 464, 465, 466, 467, 492, 493, 494, 495] (by decide +kernel) (by decide +kernel)) (goodIn_sub (fun _ h => List.mem_append_left _ (List.mem_append_right _ h)) (by decide +kernel))) (goodIn_sub (fun _ h => List.mem_append_left _ (List.mem_append_left _ (List.mem_append_right _ h))) (by decide +kernel))) (goodIn_sub (fun _ h => List.mem_append_right _ h) (by decide +kernel))
set_option maxRecDepth 20000 in
theorem gL_law_L_link : GoodIn wsL_law (va_wsS RL 93 yL_link wsL_link) := goodIn_app (goodIn_of _ (by decide +kernel)) ggL_law_L_link
set_option maxRecDepth 20000 in
theorem ggL_law_X3_link : GoodIn wsL_law wsX3_link := goodIn_r _ [188, 189, 57, 104, 58, 59, 190, 134, 135, 136, 5, 137, 71, 105, 106, 107, 468, 469, 470, 471, 472, 473, 474, 475, 476, 477, 478, 479, 480, 481, 482, 483, 484, 485, 486, 487, 488, 489, 490, 491] (by decide +kernel) (by decide +kernel)
set_option maxRecDepth 20000 in
theorem gL_law_X3_link : GoodIn wsL_law (wsV RL 95 RX3 yX3_link wsX3_link) := goodIn_app (goodIn_of _ (by decide +kernel)) ggL_law_X3_link
set_option maxRecDepth 20000 in
theorem ggL_law_L_cut : GoodIn wsL_law wsL_cut := goodIn_ca (goodIn_ca (goodIn_r _ [193, 115, 77, 194, 195, 196, 2, 197, 23, 120, 121, 122, 123, 124, 125, 126, 127, 128, 129, 30, 198, 199, 200, 201, 82, 83, 172, 22, 173, 174, 36, 175, 176, 177, 202, 203, 204, 39, 205, 206, 207, 208, 27, 89, 90, 91, 92, 93, 94, 95, 96, 15, 16, 97, 26, 98, 99, 43, 44, 45, 46, 456, 457, 458, 459, 460, 461, 462, 463, 464, 465, 466, 467, 492, 493, 494, 495, 496, 497, 498, 499] (by decide +kernel) (by decide +kernel)) (goodIn_sub (fun _ h => List.mem_append_right _ h) (by decide +kernel))) (goodIn_sub (fun _ h => List.mem_append_left _ (List.mem_append_left _ (List.mem_append_right _ h))) (by decide +kernel))
set_option maxRecDepth 20000 in
theorem gL_law_L_cut : GoodIn wsL_law (va_wsS RL 96 yL_cut wsL_cut) := goodIn_app (goodIn_of _ (by decide +kernel)) ggL_law_L_cut
set_option maxRecDepth 20000 in
theorem ggL_law_X3_cut : GoodIn wsL_law wsX3_cut := goodIn_r _ [212, 57, 104, 64, 190, 134, 135, 136, 5, 137, 71, 105, 106, 107, 108, 109, 110, 111, 60, 61, 52, 62, 53, 63, 468, 469, 470, 471, 472, 473, 474, 475, 476, 477, 478, 479, 480, 481, 482, 483, 484, 485, 486, 487, 488, 489, 490, 491] (by decide +kernel) (by decide +kernel)
set_option maxRecDepth 20000 in
theorem gL_law_X3_cut : GoodIn wsL_law (wsV RL 98 RX3 yX3_cut wsX3_cut) := goodIn_app (goodIn_of _ (by decide +kernel)) ggL_law_X3_cut
set_option maxRecDepth 20000 in
theorem ggL_law_L_tell : GoodIn wsL_law wsL_tell := goodIn_ca (goodIn_ca (goodIn_ca (goodIn_r _ [215, 115, 76, 77, 216, 217, 218, 2, 219, 220, 171, 23, 120, 121, 122, 123, 124, 125, 126, 127, 128, 129, 30, 84, 85, 86, 87, 88, 198, 199, 200, 201, 82, 83, 172, 22, 173, 174, 36, 175, 176, 177, 182, 183, 184, 38, 456, 457, 458, 459, 460, 461, 462, 463, 464, 465, 466, 467, 492, 493, 494, 495] (by decide +kernel) (by decide +kernel)) (goodIn_sub (fun _ h => List.mem_append_right _ h) (by decide +kernel))) (goodIn_sub (fun _ h => List.mem_append_left _ (List.mem_append_right _ h)) (by decide +kernel))) (goodIn_sub (fun _ h => List.mem_append_left _ (List.mem_append_left _ (List.mem_append_right _ h))) (by decide +kernel))
set_option maxRecDepth 20000 in
theorem gL_law_L_tell : GoodIn wsL_law (va_wsS RL 99 yL_tell wsL_tell) := goodIn_app (goodIn_of _ (by decide +kernel)) ggL_law_L_tell
set_option maxRecDepth 20000 in
theorem ggL_law_X3_tell : GoodIn wsL_law wsX3_tell := goodIn_r _ [224, 225, 189, 57, 104, 59, 134, 135, 136, 5, 137, 71, 105, 106, 107, 468, 469, 470, 471, 472, 473, 474, 475, 476, 477, 478, 479, 480, 481, 482, 483, 484, 485, 486, 487, 488, 489, 490, 491] (by decide +kernel) (by decide +kernel)
set_option maxRecDepth 20000 in
theorem gL_law_X3_tell : GoodIn wsL_law (wsV RL 101 RX3 yX3_tell wsX3_tell) := goodIn_app (goodIn_of _ (by decide +kernel)) ggL_law_X3_tell
set_option maxRecDepth 20000 in
theorem ggL_law_L_tick : GoodIn wsL_law wsL_tick := goodIn_ca (goodIn_r _ [228, 76, 229, 230, 231, 2, 232, 31, 84, 85, 86, 87, 88, 233, 234, 235, 236, 30, 18, 17, 19, 27, 237, 238, 239, 240, 28, 241, 26, 242, 243, 43, 44, 45, 46, 244, 245, 246, 247, 89, 90, 91, 92, 93, 94, 95, 96, 15, 16, 97, 98, 99, 248, 249, 250, 251, 14, 23, 172, 22, 173, 174, 36, 175, 176, 177, 252, 253, 254, 255, 256, 257, 258, 259, 260, 261, 262, 263, 126, 127, 128, 129, 264, 265, 266, 37, 38, 456, 457, 458, 459, 460, 461, 462, 463, 464, 465, 466, 467, 496, 497, 498, 499, 492, 493, 494, 495] (by decide +kernel) (by decide +kernel)) (goodIn_sub (fun _ h => List.mem_append_left _ (List.mem_append_right _ h)) (by decide +kernel))
set_option maxRecDepth 20000 in
theorem gL_law_L_tick : GoodIn wsL_law (va_wsS RL 102 yL_tick wsL_tick) := goodIn_app (goodIn_of _ (by decide +kernel)) ggL_law_L_tick
set_option maxRecDepth 20000 in
theorem ggL_law_X3_tick : GoodIn wsL_law wsX3_tick := goodIn_r _ [270, 104, 71, 55, 54, 56, 64, 63, 271, 105, 106, 5, 107, 272, 273, 274, 275, 60, 65, 61, 66, 62, 67, 68, 69, 276, 277, 278, 279, 52, 53, 280, 281, 282, 283, 57, 51, 284, 285, 286, 287, 288, 289, 290, 291, 58, 59, 292, 293, 468, 469, 470, 471, 472, 473, 474, 475, 476, 477, 478, 479, 480, 481, 482, 483, 484, 485, 486, 487, 488, 489, 490, 491] (by decide +kernel) (by decide +kernel)
set_option maxRecDepth 20000 in
theorem gL_law_X3_tick : GoodIn wsL_law (wsV RL 105 RX3 yX3_tick wsX3_tick) := goodIn_app (goodIn_of _ (by decide +kernel)) ggL_law_X3_tick
set_option maxRecDepth 20000 in
theorem ggL_law_X2_nodes : GoodIn wsL_law wsX2_nodes := goodIn_r _ [297, 30, 456, 457, 458, 459, 460, 461, 462, 463, 464, 465, 466, 467] (by decide +kernel) (by decide +kernel)
set_option maxRecDepth 20000 in
theorem gL_law_X2_nodes : GoodIn wsL_law (wsV RL 106 RX2 yX2_nodes wsX2_nodes) := goodIn_app (goodIn_of _ (by decide +kernel)) ggL_law_X2_nodes
set_option maxRecDepth 20000 in
theorem ggL_law_X3_nodes : GoodIn wsL_law wsX3_nodes := goodIn_r _ [301, 104, 71, 468, 469, 470, 471, 472, 473, 474, 475, 476, 477, 478, 479, 480, 481, 482, 483, 484, 485, 486, 487, 488, 489, 490, 491] (by decide +kernel) (by decide +kernel)
set_option maxRecDepth 20000 in
theorem gL_law_X3_nodes : GoodIn wsL_law (wsV RL 110 RX3 yX3_nodes wsX3_nodes) := goodIn_app (goodIn_of _ (by decide +kernel)) ggL_law_X3_nodes
set_option maxRecDepth 20000 in
theorem ggL_law_X2_links : GoodIn wsL_law wsX2_links := goodIn_r _ [305, 23, 456, 457, 458, 459, 460, 461, 462, 463, 464, 465, 466, 467, 492, 493, 494, 495] (by decide +kernel) (by decide +kernel)
set_option maxRecDepth 20000 in
theorem gL_law_X2_links : GoodIn wsL_law (wsV RL 111 RX2 yX2_links wsX2_links) := goodIn_app (goodIn_of _ (by decide +kernel)) ggL_law_X2_links
set_option maxRecDepth 20000 in
theorem ggL_law_X3_links : GoodIn wsL_law wsX3_links := goodIn_r _ [309, 104, 190, 468, 469, 470, 471, 472, 473, 474, 475, 476, 477, 478, 479, 480, 481, 482, 483, 484, 485, 486, 487, 488, 489, 490, 491] (by decide +kernel) (by decide +kernel)
set_option maxRecDepth 20000 in
theorem gL_law_X3_links : GoodIn wsL_law (wsV RL 114 RX3 yX3_links wsX3_links) := goodIn_app (goodIn_of _ (by decide +kernel)) ggL_law_X3_links
set_option maxRecDepth 20000 in
theorem ggL_law_L_best : GoodIn wsL_law wsL_best := goodIn_ca (goodIn_r _ [312, 115, 313, 314, 315, 2, 316, 27, 120, 121, 122, 123, 124, 125, 126, 127, 128, 129, 30, 456, 457, 458, 459, 460, 461, 462, 463, 464, 465, 466, 467, 496, 497, 498, 499] (by decide +kernel) (by decide +kernel)) (goodIn_sub (fun _ h => List.mem_append_right _ h) (by decide +kernel))
set_option maxRecDepth 20000 in
theorem gL_law_L_best : GoodIn wsL_law (va_wsS RL 115 yL_best wsL_best) := goodIn_app (goodIn_of _ (by decide +kernel)) ggL_law_L_best
set_option maxRecDepth 20000 in
theorem ggL_law_X3_best : GoodIn wsL_law wsX3_best := goodIn_r _ [320, 60, 321, 322, 323, 5, 324, 104, 134, 135, 136, 137, 71, 105, 106, 107, 468, 469, 470, 471, 472, 473, 474, 475, 476, 477, 478, 479, 480, 481, 482, 483, 484, 485, 486, 487, 488, 489, 490, 491] (by decide +kernel) (by decide +kernel)
set_option maxRecDepth 20000 in
theorem gL_law_X3_best : GoodIn wsL_law (wsV RL 117 RX3 yX3_best wsX3_best) := goodIn_app (goodIn_of _ (by decide +kernel)) ggL_law_X3_best
set_option maxRecDepth 20000 in
theorem ggL_law_L_steps : GoodIn wsL_law wsL_steps := goodIn_ca (goodIn_r _ [327, 115, 328, 329, 330, 2, 331, 27, 120, 121, 122, 123, 124, 125, 126, 127, 128, 129, 30, 456, 457, 458, 459, 460, 461, 462, 463, 464, 465, 466, 467, 496, 497, 498, 499] (by decide +kernel) (by decide +kernel)) (goodIn_sub (fun _ h => List.mem_append_right _ h) (by decide +kernel))
set_option maxRecDepth 20000 in
theorem gL_law_L_steps : GoodIn wsL_law (va_wsS RL 118 yL_steps wsL_steps) := goodIn_app (goodIn_of _ (by decide +kernel)) ggL_law_L_steps
set_option maxRecDepth 20000 in
theorem ggL_law_X3_steps : GoodIn wsL_law wsX3_steps := goodIn_r _ [335, 63, 321, 322, 323, 5, 324, 104, 134, 135, 136, 137, 71, 105, 106, 107, 468, 469, 470, 471, 472, 473, 474, 475, 476, 477, 478, 479, 480, 481, 482, 483, 484, 485, 486, 487, 488, 489, 490, 491] (by decide +kernel) (by decide +kernel)
set_option maxRecDepth 20000 in
theorem gL_law_X3_steps : GoodIn wsL_law (wsV RL 120 RX3 yX3_steps wsX3_steps) := goodIn_app (goodIn_of _ (by decide +kernel)) ggL_law_X3_steps
set_option maxRecDepth 20000 in
theorem ggL_law_L_parent : GoodIn wsL_law wsL_parent := goodIn_ca (goodIn_r _ [338, 115, 339, 340, 341, 2, 342, 27, 120, 121, 122, 123, 124, 125, 126, 127, 128, 129, 30, 456, 457, 458, 459, 460, 461, 462, 463, 464, 465, 466, 467, 496, 497, 498, 499] (by decide +kernel) (by decide +kernel)) (goodIn_sub (fun _ h => List.mem_append_right _ h) (by decide +kernel))
set_option maxRecDepth 20000 in
theorem gL_law_L_parent : GoodIn wsL_law (va_wsS RL 121 yL_parent wsL_parent) := goodIn_app (goodIn_of _ (by decide +kernel)) ggL_law_L_parent
set_option maxRecDepth 20000 in
theorem ggL_law_X3_parent : GoodIn wsL_law wsX3_parent := goodIn_r _ [346, 64, 321, 322, 323, 5, 324, 104, 134, 135, 136, 137, 71, 105, 106, 107, 468, 469, 470, 471, 472, 473, 474, 475, 476, 477, 478, 479, 480, 481, 482, 483, 484, 485, 486, 487, 488, 489, 490, 491] (by decide +kernel) (by decide +kernel)
set_option maxRecDepth 20000 in
theorem gL_law_X3_parent : GoodIn wsL_law (wsV RL 123 RX3 yX3_parent wsX3_parent) := goodIn_app (goodIn_of _ (by decide +kernel)) ggL_law_X3_parent
set_option maxRecDepth 20000 in
theorem ggL_law_L_port : GoodIn wsL_law wsL_port := goodIn_ca (goodIn_r _ [349, 115, 350, 351, 352, 2, 353, 27, 120, 121, 122, 123, 124, 125, 126, 127, 128, 129, 30, 248, 249, 250, 251, 14, 23, 172, 22, 173, 174, 36, 175, 176, 177, 354, 355, 356, 357, 456, 457, 458, 459, 460, 461, 462, 463, 464, 465, 466, 467, 496, 497, 498, 499, 492, 493, 494, 495] (by decide +kernel) (by decide +kernel)) (goodIn_sub (fun _ h => List.mem_append_right _ h) (by decide +kernel))
set_option maxRecDepth 20000 in
theorem gL_law_L_port : GoodIn wsL_law (va_wsS RL 124 yL_port wsL_port) := goodIn_app (goodIn_of _ (by decide +kernel)) ggL_law_L_port
set_option maxRecDepth 20000 in
theorem ggL_law_X3_port : GoodIn wsL_law wsX3_port := goodIn_r _ [361, 104, 64, 63, 134, 135, 136, 5, 137, 71, 105, 106, 107, 280, 281, 282, 283, 57, 51, 468, 469, 470, 471, 472, 473, 474, 475, 476, 477, 478, 479, 480, 481, 482, 483, 484, 485, 486, 487, 488, 489, 490, 491] (by decide +kernel) (by decide +kernel)
set_option maxRecDepth 20000 in
theorem gL_law_X3_port : GoodIn wsL_law (wsV RL 126 RX3 yX3_port wsX3_port) := goodIn_app (goodIn_of _ (by decide +kernel)) ggL_law_X3_port
set_option maxRecDepth 20000 in
theorem ggL_law_L_bestByGraph : GoodIn wsL_law wsL_bestByGraph := goodIn_ca (goodIn_r _ [364, 115, 365, 366, 367, 2, 368, 120, 121, 122, 123, 124, 125, 126, 127, 128, 129, 30, 369, 370, 371, 372, 29, 373, 374, 375, 376, 248, 249, 250, 251, 14, 23, 172, 22, 173, 174, 36, 175, 176, 177, 377, 378, 379, 380, 93, 94, 95, 96, 15, 16, 456, 457, 458, 459, 460, 461, 462, 463, 464, 465, 466, 467, 492, 493, 494, 495] (by decide +kernel) (by decide +kernel)) (goodIn_sub (fun _ h => List.mem_append_right _ h) (by decide +kernel))
set_option maxRecDepth 20000 in
theorem gL_law_L_bestByGraph : GoodIn wsL_law (va_wsS RL 127 yL_bestByGraph wsL_bestByGraph) := goodIn_app (goodIn_of _ (by decide +kernel)) ggL_law_L_bestByGraph
set_option maxRecDepth 20000 in
theorem ggL_law_X3_bestByGraph : GoodIn wsL_law wsX3_bestByGraph := goodIn_r _ [384, 321, 322, 323, 5, 324, 104, 134, 135, 136, 137, 71, 105, 106, 107, 385, 386, 387, 388, 52, 53, 70, 389, 390, 391, 392, 280, 281, 282, 283, 57, 51, 468, 469, 470, 471, 472, 473, 474, 475, 476, 477, 478, 479, 480, 481, 482, 483, 484, 485, 486, 487, 488, 489, 490, 491] (by decide +kernel) (by decide +kernel)
set_option maxRecDepth 20000 in
theorem gL_law_X3_bestByGraph : GoodIn wsL_law (wsV RL 129 RX3 yX3_bestByGraph wsX3_bestByGraph) := goodIn_app (goodIn_of _ (by decide +kernel)) ggL_law_X3_bestByGraph
set_option maxRecDepth 20000 in
theorem ggL_law_L_stepsByGraph : GoodIn wsL_law wsL_stepsByGraph := goodIn_ca (goodIn_r _ [395, 115, 396, 397, 398, 2, 399, 29, 120, 121, 122, 123, 124, 125, 126, 127, 128, 129, 30, 369, 370, 371, 372, 373, 374, 375, 376, 248, 249, 250, 251, 14, 23, 172, 22, 173, 174, 36, 175, 176, 177, 377, 378, 379, 380, 93, 94, 95, 96, 15, 16, 456, 457, 458, 459, 460, 461, 462, 463, 464, 465, 466, 467, 492, 493, 494, 495] (by decide +kernel) (by decide +kernel)) (goodIn_sub (fun _ h => List.mem_append_right _ h) (by decide +kernel))
set_option maxRecDepth 20000 in
theorem gL_law_L_stepsByGraph : GoodIn wsL_law (va_wsS RL 130 yL_stepsByGraph wsL_stepsByGraph) := goodIn_app (goodIn_of _ (by decide +kernel)) ggL_law_L_stepsByGraph
set_option maxRecDepth 20000 in
theorem ggL_law_X3_stepsByGraph : GoodIn wsL_law wsX3_stepsByGraph := goodIn_r _ [403, 70, 321, 322, 323, 5, 324, 104, 134, 135, 136, 137, 71, 105, 106, 107, 385, 386, 387, 388, 52, 53, 389, 390, 391, 392, 280, 281, 282, 283, 57, 51, 468, 469, 470, 471, 472, 473, 474, 475, 476, 477, 478, 479, 480, 481, 482, 483, 484, 485, 486, 487, 488, 489, 490, 491] (by decide +kernel) (by decide +kernel)
set_option maxRecDepth 20000 in
theorem gL_law_X3_stepsByGraph : GoodIn wsL_law (wsV RL 132 RX3 yX3_stepsByGraph wsX3_stepsByGraph) := goodIn_app (goodIn_of _ (by decide +kernel)) ggL_law_X3_stepsByGraph
set_option maxRecDepth 20000 in
theorem ggL_law_X2_isSettled : GoodIn wsL_law wsX2_isSettled := goodIn_r _ [407, 30, 27, 29, 369, 370, 371, 2, 372, 373, 374, 375, 376, 248, 249, 250, 251, 14, 23, 172, 22, 173, 174, 36, 175, 176, 177, 377, 378, 379, 380, 93, 94, 95, 96, 15, 16, 456, 457, 458, 459, 460, 461, 462, 463, 464, 465, 466, 467, 496, 497, 498, 499, 492, 493, 494, 495] (by decide +kernel) (by decide +kernel)
set_option maxRecDepth 20000 in
theorem gL_law_X2_isSettled : GoodIn wsL_law (wsV RL 133 RX2 yX2_isSettled wsX2_isSettled) := goodIn_app (goodIn_of _ (by decide +kernel)) ggL_law_X2_isSettled
set_option maxRecDepth 20000 in
theorem ggL_law_X3_isSettled : GoodIn wsL_law wsX3_isSettled := goodIn_r _ [411, 104, 71, 60, 63, 70, 385, 386, 387, 5, 388, 52, 53, 389, 390, 391, 392, 280, 281, 282, 283, 57, 51, 468, 469, 470, 471, 472, 473, 474, 475, 476, 477, 478, 479, 480, 481, 482, 483, 484, 485, 486, 487, 488, 489, 490, 491] (by decide +kernel) (by decide +kernel)
set_option maxRecDepth 20000 in
theorem gL_law_X3_isSettled : GoodIn wsL_law (wsV RL 137 RX3 yX3_isSettled wsX3_isSettled) := goodIn_app (goodIn_of _ (by decide +kernel)) ggL_law_X3_isSettled
set_option maxRecDepth 20000 in
theorem ggL_law_L_offset : GoodIn wsL_law wsL_offset := goodIn_ca (goodIn_r _ [414, 115, 415, 416, 417, 2, 418, 18, 120, 121, 122, 123, 124, 125, 126, 127, 128, 129, 30, 456, 457, 458, 459, 460, 461, 462, 463, 464, 465, 466, 467] (by decide +kernel) (by decide +kernel)) (goodIn_sub (fun _ h => List.mem_append_right _ h) (by decide +kernel))
set_option maxRecDepth 20000 in
theorem gL_law_L_offset : GoodIn wsL_law (va_wsS RL 138 yL_offset wsL_offset) := goodIn_app (goodIn_of _ (by decide +kernel)) ggL_law_L_offset
set_option maxRecDepth 20000 in
theorem ggL_law_X3_offset : GoodIn wsL_law wsX3_offset := goodIn_r _ [422, 55, 321, 322, 323, 5, 324, 104, 134, 135, 136, 137, 71, 105, 106, 107, 468, 469, 470, 471, 472, 473, 474, 475, 476, 477, 478, 479, 480, 481, 482, 483, 484, 485, 486, 487, 488, 489, 490, 491] (by decide +kernel) (by decide +kernel)
set_option maxRecDepth 20000 in
theorem gL_law_X3_offset : GoodIn wsL_law (wsV RL 140 RX3 yX3_offset wsX3_offset) := goodIn_app (goodIn_of _ (by decide +kernel)) ggL_law_X3_offset
set_option maxRecDepth 20000 in
theorem ggL_law_X3_thrown : GoodIn wsL_law wsX3_thrown := goodIn_r _ [426, 104, 468, 469, 470, 471, 472, 473, 474, 475, 476, 477, 478, 479, 480, 481, 482, 483, 484, 485, 486, 487, 488, 489, 490, 491] (by decide +kernel) (by decide +kernel)
set_option maxRecDepth 20000 in
theorem gL_law_X3_thrown : GoodIn wsL_law (wsV RL 141 RX3 yX3_thrown wsX3_thrown) := goodIn_app (goodIn_of _ (by decide +kernel)) ggL_law_X3_thrown
set_option maxRecDepth 20000 in
theorem ggL_law_L_rate : GoodIn wsL_law wsL_rate := goodIn_ca (goodIn_r _ [429, 115, 430, 431, 432, 2, 433, 19, 120, 121, 122, 123, 124, 125, 126, 127, 128, 129, 30, 456, 457, 458, 459, 460, 461, 462, 463, 464, 465, 466, 467] (by decide +kernel) (by decide +kernel)) (goodIn_sub (fun _ h => List.mem_append_right _ h) (by decide +kernel))
set_option maxRecDepth 20000 in
theorem gL_law_L_rate : GoodIn wsL_law (va_wsS RL 144 yL_rate wsL_rate) := goodIn_app (goodIn_of _ (by decide +kernel)) ggL_law_L_rate
set_option maxRecDepth 20000 in
theorem ggL_law_X3_rate : GoodIn wsL_law wsX3_rate := goodIn_r _ [437, 56, 321, 322, 323, 5, 324, 104, 134, 135, 136, 137, 71, 105, 106, 107, 468, 469, 470, 471, 472, 473, 474, 475, 476, 477, 478, 479, 480, 481, 482, 483, 484, 485, 486, 487, 488, 489, 490, 491] (by decide +kernel) (by decide +kernel)
set_option maxRecDepth 20000 in
theorem gL_law_X3_rate : GoodIn wsL_law (wsV RL 146 RX3 yX3_rate wsX3_rate) := goodIn_app (goodIn_of _ (by decide +kernel)) ggL_law_X3_rate
set_option maxRecDepth 20000 in
theorem ggL_law_L_spread : GoodIn wsL_law wsL_spread := goodIn_ca (goodIn_r _ [440, 76, 441, 442, 443, 2, 444, 30, 14, 18, 445, 446, 447, 448, 449, 450, 451, 84, 85, 86, 87, 88, 456, 457, 458, 459, 460, 461, 462, 463, 464, 465, 466, 467] (by decide +kernel) (by decide +kernel)) (goodIn_sub (fun _ h => List.mem_append_left _ (List.mem_append_right _ h)) (by decide +kernel))
set_option maxRecDepth 20000 in
theorem gL_law_L_spread : GoodIn wsL_law (va_wsS RL 147 yL_spread wsL_spread) := goodIn_app (goodIn_of _ (by decide +kernel)) ggL_law_L_spread
set_option maxRecDepth 20000 in
theorem ggL_law_X3_spread : GoodIn wsL_law wsX3_spread := goodIn_r _ [455, 104, 71, 55, 51, 105, 106, 5, 107, 468, 469, 470, 471, 472, 473, 474, 475, 476, 477, 478, 479, 480, 481, 482, 483, 484, 485, 486, 487, 488, 489, 490, 491] (by decide +kernel) (by decide +kernel)
set_option maxRecDepth 20000 in
theorem gL_law_X3_spread : GoodIn wsL_law (wsV RL 149 RX3 yX3_spread wsX3_spread) := goodIn_app (goodIn_of _ (by decide +kernel)) ggL_law_X3_spread
