set_option maxRecDepth 20000 in
theorem ggL_act_L_up : GoodIn wsL_act wsL_up := goodIn_r _ [4, 5] (by decide +kernel) (by decide +kernel)
set_option maxRecDepth 20000 in
theorem gL_act_L_up : GoodIn wsL_act (va_wsS RL 32 yL_up wsL_up) := goodIn_app (goodIn_of _ (by decide +kernel)) ggL_act_L_up
set_option maxRecDepth 20000 in
theorem ggL_act_X6_why : GoodIn wsL_act wsX6_why := goodIn_ca (goodIn_ca (goodIn_r _ [10, 11, 12, 13, 14, 9, 15, 16, 17, 18, 19, 20, 21, 22, 23, 24, 25, 26, 27, 28, 29, 30, 31, 32, 33, 34, 35, 36, 37, 38, 39, 40, 41, 42, 256, 257, 258, 259, 260, 261, 262, 263, 264, 265, 266, 267, 268, 269, 270, 271, 272, 273, 274, 275, 276, 277, 278, 279, 280, 281] (by decide +kernel) (by decide +kernel)) (goodIn_sub (fun _ h => List.mem_cons_of_mem _ (List.mem_append_left _ (List.mem_append_left _ (List.mem_append_right _ h)))) (by decide +kernel))) (goodIn_sub (fun _ h => List.mem_cons_of_mem _ (List.mem_append_left _ (List.mem_append_right _ h))) (by decide +kernel))
set_option maxRecDepth 20000 in
theorem gL_act_X6_why : GoodIn wsL_act (wsV RL 37 RX6 yX6_why wsX6_why) := goodIn_app (goodIn_of _ (by decide +kernel)) ggL_act_X6_why
set_option maxRecDepth 20000 in
theorem ggL_act_X6_balloon : GoodIn wsL_act wsX6_balloon := goodIn_ca (goodIn_ca (goodIn_r _ [46, 11, 12, 47, 48, 49, 50, 51, 52, 53, 13, 14, 9, 15, 16, 17, 21, 22, 23, 24, 25, 54, 55, 56, 29, 57, 31, 33, 58, 59, 60, 61, 62, 63, 41, 64, 65, 66, 67, 68, 69, 70, 71, 72, 34, 73, 74, 75, 76, 77, 78, 79, 80, 81, 82, 83, 84, 85, 86, 87, 88, 89, 90, 91, 92, 93, 256, 257, 258, 259, 260, 261, 262, 263, 264, 265, 266, 267, 268, 269, 270, 271, 272, 273, 274, 275, 276, 277, 278, 279, 280, 281] (by decide +kernel) (by decide +kernel)) (goodIn_sub (fun _ h => List.mem_cons_of_mem _ (List.mem_append_left _ (List.mem_append_left _ (List.mem_append_right _ h)))) (by decide +kernel))) (goodIn_sub (fun _ h => List.mem_cons_of_mem _ (List.mem_append_left _ (List.mem_append_right _ h))) (by decide +kernel))
set_option maxRecDepth 20000 in
theorem gL_act_X6_balloon : GoodIn wsL_act (wsV RL 19 RX6 yX6_balloon wsX6_balloon) := goodIn_app (goodIn_of _ (by decide +kernel)) ggL_act_X6_balloon
set_option maxRecDepth 20000 in
theorem ggL_act_X6_fill : GoodIn wsL_act wsX6_fill := goodIn_ca (goodIn_ca (goodIn_ca (goodIn_r _ [97, 11, 12, 47, 13, 14, 9, 15, 16, 17, 21, 22, 23, 24, 25, 98, 99, 100, 101, 102, 103, 104, 26, 27, 28, 29, 30, 31, 32, 33, 34, 35, 36, 37, 38, 39, 40, 41, 42, 105, 106, 107, 108, 109, 110, 111, 112, 113, 114, 115, 116, 117, 118, 78, 119, 80, 120, 82, 121, 122, 123, 124, 84, 83, 125, 126, 127, 128, 129, 130, 131, 132, 133, 134, 135, 136, 137, 73, 138, 139, 140, 141, 142, 143, 144, 145, 146, 147, 148, 149, 150, 151, 152, 153, 154, 155, 156, 157, 158, 159, 160, 74, 59, 60, 61, 62, 63, 64, 65, 66, 67, 68, 55, 56, 57, 161, 162, 163, 164, 256, 257, 258, 259, 260, 261, 262, 263, 264, 265, 266, 267, 268, 269, 270, 271, 272, 273, 274, 275, 276, 277, 278, 279, 280, 281, 282, 283, 284, 285, 286, 287] (by decide +kernel) (by decide +kernel)) (goodIn_sub (fun _ h => List.mem_cons_of_mem _ (List.mem_append_left _ (List.mem_append_left _ (List.mem_append_right _ h)))) (by decide +kernel))) (goodIn_sub (fun _ h => List.mem_cons_of_mem _ (List.mem_append_left _ (List.mem_append_right _ h))) (by decide +kernel))) (goodIn_sub (fun _ h => List.mem_cons_of_mem _ (List.mem_append_right _ h)) (by decide +kernel))
set_option maxRecDepth 20000 in
theorem gL_act_X6_fill : GoodIn wsL_act (wsV RL 40 RX6 yX6_fill wsX6_fill) := goodIn_app (goodIn_of _ (by decide +kernel)) ggL_act_X6_fill
set_option maxRecDepth 20000 in
theorem ggL_act_X6_pass : GoodIn wsL_act wsX6_pass := goodIn_ca (goodIn_r _ [168, 104, 11, 169, 21, 22, 9, 23, 24, 25, 105, 106, 107, 108, 109, 110, 111, 112, 113, 114, 115, 116, 117, 118, 78, 119, 80, 120, 82, 121, 122, 123, 124, 84, 83, 125, 126, 127, 128, 129, 130, 131, 132, 133, 134, 29, 135, 31, 136, 33, 137, 34, 73, 138, 32, 139, 140, 141, 142, 143, 144, 145, 146, 147, 148, 170, 171, 172, 173, 174, 175, 176, 177, 62, 63, 41, 64, 178, 158, 159, 160, 74, 59, 60, 61, 65, 66, 67, 68, 55, 56, 57, 161, 162, 163, 164, 179, 180, 181, 182, 183, 184, 185, 186, 187, 188, 189, 190, 256, 257, 258, 259, 260, 261, 262, 263, 264, 265, 266, 267, 268, 269, 270, 271, 272, 273, 274, 282, 283, 275, 276, 277, 278, 279, 280, 281, 284, 285, 286, 287] (by decide +kernel) (by decide +kernel)) (goodIn_sub (fun _ h => List.mem_cons_of_mem _ (List.mem_append_left _ (List.mem_append_right _ h))) (by decide +kernel))
set_option maxRecDepth 20000 in
theorem gL_act_X6_pass : GoodIn wsL_act (wsV RL 43 RX6 yX6_pass wsX6_pass) := goodIn_app (goodIn_of _ (by decide +kernel)) ggL_act_X6_pass
set_option maxRecDepth 20000 in
theorem ggL_act_X6_vent : GoodIn wsL_act wsX6_vent := goodIn_ca (goodIn_ca (goodIn_ca (goodIn_r _ [194, 11, 12, 50, 13, 14, 9, 15, 16, 17, 21, 22, 23, 24, 25, 98, 99, 100, 101, 102, 103, 104, 26, 27, 28, 29, 30, 31, 32, 33, 34, 35, 36, 37, 38, 39, 40, 41, 42, 105, 106, 107, 108, 109, 110, 111, 112, 113, 114, 115, 116, 117, 118, 78, 119, 80, 120, 82, 121, 122, 123, 124, 84, 83, 125, 126, 127, 128, 129, 130, 131, 132, 133, 134, 135, 136, 137, 73, 138, 139, 140, 141, 142, 143, 144, 145, 146, 147, 148, 149, 150, 151, 152, 153, 154, 155, 156, 157, 158, 159, 160, 74, 59, 60, 61, 62, 63, 64, 65, 66, 67, 68, 55, 56, 57, 161, 162, 163, 164, 256, 257, 258, 259, 260, 261, 262, 263, 264, 265, 266, 267, 268, 269, 270, 271, 272, 273, 274, 275, 276, 277, 278, 279, 280, 281, 282, 283, 284, 285, 286, 287] (by decide +kernel) (by decide +kernel)) (goodIn_sub (fun _ h => List.mem_cons_of_mem _ (List.mem_append_left _ (List.mem_append_left _ (List.mem_append_right _ h)))) (by decide +kernel))) (goodIn_sub (fun _ h => List.mem_cons_of_mem _ (List.mem_append_left _ (List.mem_append_right _ h))) (by decide +kernel))) (goodIn_sub (fun _ h => List.mem_cons_of_mem _ (List.mem_append_right _ h)) (by decide +kernel))
set_option maxRecDepth 20000 in
theorem gL_act_X6_vent : GoodIn wsL_act (wsV RL 46 RX6 yX6_vent wsX6_vent) := goodIn_app (goodIn_of _ (by decide +kernel)) ggL_act_X6_vent
set_option maxRecDepth 20000 in
theorem ggL_act_X6_drop : GoodIn wsL_act wsX6_drop := goodIn_ca (goodIn_ca (goodIn_r _ [198, 11, 12, 50, 13, 14, 9, 15, 16, 17, 98, 99, 100, 101, 102, 103, 104, 26, 27, 28, 29, 30, 31, 32, 33, 34, 35, 36, 37, 38, 39, 40, 41, 42, 105, 106, 107, 108, 109, 110, 111, 112, 113, 114, 115, 116, 117, 118, 78, 119, 80, 120, 82, 121, 122, 123, 124, 84, 83, 125, 126, 127, 128, 129, 130, 131, 132, 133, 134, 135, 136, 137, 73, 138, 139, 140, 141, 142, 143, 144, 145, 146, 147, 148, 149, 150, 151, 152, 153, 154, 155, 156, 157, 158, 159, 160, 74, 59, 60, 61, 62, 63, 64, 65, 66, 67, 68, 55, 56, 57, 161, 162, 163, 164, 256, 257, 258, 259, 260, 261, 262, 263, 264, 265, 266, 267, 268, 269, 270, 271, 272, 273, 274, 275, 276, 277, 278, 279, 280, 281, 282, 283, 284, 285, 286, 287] (by decide +kernel) (by decide +kernel)) (goodIn_sub (fun _ h => List.mem_cons_of_mem _ (List.mem_append_left _ (List.mem_append_left _ (List.mem_append_right _ h)))) (by decide +kernel))) (goodIn_sub (fun _ h => List.mem_cons_of_mem _ (List.mem_append_right _ h)) (by decide +kernel))
set_option maxRecDepth 20000 in
theorem gL_act_X6_drop : GoodIn wsL_act (wsV RL 49 RX6 yX6_drop wsX6_drop) := goodIn_app (goodIn_of _ (by decide +kernel)) ggL_act_X6_drop
set_option maxRecDepth 20000 in
theorem ggL_act_X6_put : GoodIn wsL_act wsX6_put := goodIn_ca (goodIn_ca (goodIn_r _ [202, 11, 12, 48, 13, 14, 9, 15, 16, 17, 98, 99, 100, 101, 102, 103, 104, 26, 27, 28, 29, 30, 31, 32, 33, 34, 35, 36, 37, 38, 39, 40, 41, 42, 105, 106, 107, 108, 109, 110, 111, 112, 113, 114, 115, 116, 117, 118, 78, 119, 80, 120, 82, 121, 122, 123, 124, 84, 83, 125, 126, 127, 128, 129, 130, 131, 132, 133, 134, 135, 136, 137, 73, 138, 139, 140, 141, 142, 143, 144, 145, 146, 147, 148, 149, 150, 151, 152, 153, 154, 155, 156, 157, 158, 159, 160, 74, 59, 60, 61, 62, 63, 64, 65, 66, 67, 68, 55, 56, 57, 161, 162, 163, 164, 256, 257, 258, 259, 260, 261, 262, 263, 264, 265, 266, 267, 268, 269, 270, 271, 272, 273, 274, 275, 276, 277, 278, 279, 280, 281, 282, 283, 284, 285, 286, 287] (by decide +kernel) (by decide +kernel)) (goodIn_sub (fun _ h => List.mem_cons_of_mem _ (List.mem_append_left _ (List.mem_append_left _ (List.mem_append_right _ h)))) (by decide +kernel))) (goodIn_sub (fun _ h => List.mem_cons_of_mem _ (List.mem_append_right _ h)) (by decide +kernel))
set_option maxRecDepth 20000 in
theorem gL_act_X6_put : GoodIn wsL_act (wsV RL 52 RX6 yX6_put wsX6_put) := goodIn_app (goodIn_of _ (by decide +kernel)) ggL_act_X6_put
set_option maxRecDepth 20000 in
theorem ggL_act_X6_leak : GoodIn wsL_act wsX6_leak := goodIn_ca (goodIn_ca (goodIn_r _ [206, 104, 11, 12, 49, 13, 14, 9, 15, 16, 17, 21, 22, 23, 24, 25, 105, 106, 107, 108, 109, 110, 111, 112, 113, 114, 115, 116, 117, 118, 78, 119, 80, 120, 82, 121, 122, 123, 124, 84, 83, 125, 126, 127, 128, 129, 130, 131, 132, 133, 134, 29, 135, 31, 136, 33, 137, 34, 73, 138, 32, 139, 140, 141, 142, 143, 144, 145, 146, 147, 148, 256, 257, 258, 259, 260, 261, 262, 263, 264, 265, 266, 267, 268, 269, 270, 271, 272, 273, 274, 275, 276, 277, 278, 279, 280, 281, 282, 283, 284, 285, 286, 287] (by decide +kernel) (by decide +kernel)) (goodIn_sub (fun _ h => List.mem_cons_of_mem _ (List.mem_append_left _ (List.mem_append_left _ (List.mem_append_right _ h)))) (by decide +kernel))) (goodIn_sub (fun _ h => List.mem_cons_of_mem _ (List.mem_append_left _ (List.mem_append_right _ h))) (by decide +kernel))
set_option maxRecDepth 20000 in
theorem gL_act_X6_leak : GoodIn wsL_act (wsV RL 55 RX6 yX6_leak wsX6_leak) := goodIn_app (goodIn_of _ (by decide +kernel)) ggL_act_X6_leak
set_option maxRecDepth 20000 in
theorem ggL_act_X6_tune : GoodIn wsL_act wsX6_tune := goodIn_ca (goodIn_ca (goodIn_r _ [210, 104, 11, 51, 53, 52, 13, 14, 9, 15, 16, 17, 21, 22, 23, 24, 25, 105, 106, 107, 108, 109, 110, 111, 112, 113, 114, 115, 116, 117, 118, 78, 119, 80, 120, 82, 121, 122, 123, 124, 84, 83, 125, 126, 127, 128, 129, 130, 131, 132, 133, 134, 29, 135, 31, 136, 33, 137, 34, 73, 138, 32, 139, 140, 141, 142, 143, 144, 145, 146, 147, 148, 75, 76, 77, 79, 81, 256, 257, 258, 259, 260, 261, 262, 263, 264, 265, 266, 267, 268, 269, 270, 271, 272, 273, 274, 282, 283, 275, 276, 277, 278, 279, 280, 281, 284, 285, 286, 287] (by decide +kernel) (by decide +kernel)) (goodIn_sub (fun _ h => List.mem_cons_of_mem _ (List.mem_append_left _ (List.mem_append_left _ (List.mem_append_right _ h)))) (by decide +kernel))) (goodIn_sub (fun _ h => List.mem_cons_of_mem _ (List.mem_append_left _ (List.mem_append_right _ h))) (by decide +kernel))
set_option maxRecDepth 20000 in
theorem gL_act_X6_tune : GoodIn wsL_act (wsV RL 58 RX6 yX6_tune wsX6_tune) := goodIn_app (goodIn_of _ (by decide +kernel)) ggL_act_X6_tune
set_option maxRecDepth 20000 in
theorem ggL_act_X6_note : GoodIn wsL_act wsX6_note := goodIn_ca (goodIn_r _ [214, 104, 11, 13, 14, 9, 15, 16, 17, 105, 106, 107, 108, 109, 110, 111, 112, 113, 114, 115, 116, 117, 118, 78, 119, 80, 120, 82, 121, 122, 123, 124, 84, 83, 125, 126, 127, 128, 129, 130, 131, 132, 133, 134, 29, 135, 31, 136, 33, 137, 34, 73, 138, 32, 139, 140, 141, 142, 143, 144, 145, 146, 147, 148, 215, 216, 217, 218, 219, 76, 77, 79, 81, 220, 221, 222, 223, 224, 225, 226, 227, 228, 229, 230, 231, 75, 256, 257, 258, 259, 260, 261, 262, 282, 283, 263, 264, 265, 266, 267, 268, 269, 270, 271, 272, 273, 274, 275, 276, 277, 278, 279, 280, 281, 284, 285, 286, 287] (by decide +kernel) (by decide +kernel)) (goodIn_sub (fun _ h => List.mem_cons_of_mem _ (List.mem_append_left _ (List.mem_append_left _ (List.mem_append_right _ h)))) (by decide +kernel))
set_option maxRecDepth 20000 in
theorem gL_act_X6_note : GoodIn wsL_act (wsV RL 61 RX6 yX6_note wsX6_note) := goodIn_app (goodIn_of _ (by decide +kernel)) ggL_act_X6_note
set_option maxRecDepth 20000 in
theorem ggL_act_X6_cut : GoodIn wsL_act wsX6_cut := goodIn_ca (goodIn_ca (goodIn_r _ [235, 11, 12, 18, 19, 9, 20, 16, 17, 236, 237, 238, 29, 239, 32, 98, 99, 100, 101, 102, 103, 104, 26, 27, 28, 30, 31, 33, 34, 35, 36, 37, 38, 39, 40, 41, 42, 105, 106, 107, 108, 109, 110, 111, 112, 113, 114, 115, 116, 117, 118, 78, 119, 80, 120, 82, 121, 122, 123, 124, 84, 83, 125, 126, 127, 128, 129, 130, 131, 132, 133, 134, 135, 136, 137, 73, 138, 139, 140, 141, 142, 143, 144, 145, 146, 147, 148, 149, 150, 151, 152, 153, 154, 155, 156, 157, 158, 159, 160, 74, 59, 60, 61, 62, 63, 64, 65, 66, 67, 68, 55, 56, 57, 161, 162, 163, 164, 256, 257, 258, 259, 260, 261, 262, 263, 264, 265, 266, 267, 268, 269, 270, 271, 272, 273, 274, 275, 276, 277, 278, 279, 280, 281, 282, 283, 284, 285, 286, 287] (by decide +kernel) (by decide +kernel)) (goodIn_sub (fun _ h => List.mem_cons_of_mem _ (List.mem_append_left _ (List.mem_append_left _ (List.mem_append_right _ h)))) (by decide +kernel))) (goodIn_sub (fun _ h => List.mem_cons_of_mem _ (List.mem_append_right _ h)) (by decide +kernel))
set_option maxRecDepth 20000 in
theorem gL_act_X6_cut : GoodIn wsL_act (wsV RL 64 RX6 yX6_cut wsX6_cut) := goodIn_app (goodIn_of _ (by decide +kernel)) ggL_act_X6_cut
set_option maxRecDepth 20000 in
theorem ggL_act_X6_tie : GoodIn wsL_act wsX6_tie := goodIn_ca (goodIn_ca (goodIn_ca (goodIn_r _ [243, 11, 12, 18, 19, 9, 20, 16, 17, 21, 22, 23, 24, 25, 98, 99, 100, 101, 102, 103, 104, 26, 27, 28, 29, 30, 31, 32, 33, 34, 35, 36, 37, 38, 39, 40, 41, 42, 105, 106, 107, 108, 109, 110, 111, 112, 113, 114, 115, 116, 117, 118, 78, 119, 80, 120, 82, 121, 122, 123, 124, 84, 83, 125, 126, 127, 128, 129, 130, 131, 132, 133, 134, 135, 136, 137, 73, 138, 139, 140, 141, 142, 143, 144, 145, 146, 147, 148, 149, 150, 151, 152, 153, 154, 155, 156, 157, 158, 159, 160, 74, 59, 60, 61, 62, 63, 64, 65, 66, 67, 68, 55, 56, 57, 161, 162, 163, 164, 89, 90, 91, 92, 93, 86, 87, 88, 256, 257, 258, 259, 260, 261, 262, 263, 264, 265, 266, 267, 268, 269, 270, 271, 272, 273, 274, 275, 276, 277, 278, 279, 280, 281, 282, 283, 284, 285, 286, 287] (by decide +kernel) (by decide +kernel)) (goodIn_sub (fun _ h => List.mem_cons_of_mem _ (List.mem_append_left _ (List.mem_append_left _ (List.mem_append_right _ h)))) (by decide +kernel))) (goodIn_sub (fun _ h => List.mem_cons_of_mem _ (List.mem_append_left _ (List.mem_append_right _ h))) (by decide +kernel))) (goodIn_sub (fun _ h => List.mem_cons_of_mem _ (List.mem_append_right _ h)) (by decide +kernel))
set_option maxRecDepth 20000 in
theorem gL_act_X6_tie : GoodIn wsL_act (wsV RL 67 RX6 yX6_tie wsX6_tie) := goodIn_app (goodIn_of _ (by decide +kernel)) ggL_act_X6_tie
set_option maxRecDepth 20000 in
theorem ggL_act_X6_bear : GoodIn wsL_act wsX6_bear := goodIn_ca (goodIn_ca (goodIn_r _ [247, 104, 11, 12, 248, 18, 19, 9, 20, 16, 17, 21, 22, 23, 24, 25, 105, 106, 107, 108, 109, 110, 111, 112, 113, 114, 115, 116, 117, 118, 78, 119, 80, 120, 82, 121, 122, 123, 124, 84, 83, 125, 126, 127, 128, 129, 130, 131, 132, 133, 134, 29, 135, 31, 136, 33, 137, 34, 73, 138, 32, 139, 140, 141, 142, 143, 144, 145, 146, 147, 148, 256, 257, 258, 259, 260, 261, 262, 263, 264, 265, 266, 267, 268, 269, 270, 271, 272, 273, 274, 275, 276, 277, 278, 279, 280, 281, 282, 283, 284, 285, 286, 287] (by decide +kernel) (by decide +kernel)) (goodIn_sub (fun _ h => List.mem_cons_of_mem _ (List.mem_append_left _ (List.mem_append_left _ (List.mem_append_right _ h)))) (by decide +kernel))) (goodIn_sub (fun _ h => List.mem_cons_of_mem _ (List.mem_append_left _ (List.mem_append_right _ h))) (by decide +kernel))
set_option maxRecDepth 20000 in
theorem gL_act_X6_bear : GoodIn wsL_act (wsV RL 70 RX6 yX6_bear wsX6_bear) := goodIn_app (goodIn_of _ (by decide +kernel)) ggL_act_X6_bear
set_option maxRecDepth 20000 in
theorem ggL_act_X6_goBack : GoodIn wsL_act wsX6_goBack := goodIn_ca (goodIn_r _ [252, 102, 103, 253, 104, 11, 254, 52, 105, 106, 107, 108, 109, 110, 111, 112, 113, 114, 115, 116, 117, 118, 78, 119, 80, 120, 82, 121, 122, 123, 124, 84, 83, 125, 126, 127, 128, 129, 130, 131, 132, 133, 134, 29, 135, 31, 136, 33, 137, 34, 73, 138, 32, 139, 140, 141, 142, 143, 144, 145, 146, 147, 148, 255, 256, 257, 258, 259, 260, 261, 262, 263, 264, 265, 266, 267, 268, 269, 270, 271, 272, 273, 274, 282, 283, 275, 276, 277, 278, 279, 280, 281, 284, 285, 286, 287] (by decide +kernel) (by decide +kernel)) (goodIn_sub (fun _ h => List.mem_cons_of_mem _ (List.mem_append_right _ h)) (by decide +kernel))
set_option maxRecDepth 20000 in
theorem gL_act_X6_goBack : GoodIn wsL_act (wsV RL 73 RX6 yX6_goBack wsX6_goBack) := goodIn_app (goodIn_of _ (by decide +kernel)) ggL_act_X6_goBack
theorem dL_act_0 : decode cL_act 0 = .ok (.iload_n 2, 1) := by decide +kernel
theorem dL_act_1 : decode cL_act 1 = .ok (.bipush 8, 2) := by decide +kernel
theorem dL_act_3 : decode cL_act 3 = .ok (.invokestatic 32, 3) := by decide +kernel
theorem dL_act_6 : decode cL_act 6 = .ok (.istore_n 3, 1) := by decide +kernel
theorem dL_act_7 : decode cL_act 7 = .ok (.iload_n 2, 1) := by decide +kernel
theorem dL_act_8 : decode cL_act 8 = .ok (.bipush 7, 2) := by decide +kernel
theorem dL_act_10 : decode cL_act 10 = .ok (.invokestatic 32, 3) := by decide +kernel
theorem dL_act_13 : decode cL_act 13 = .ok (.istore 4, 2) := by decide +kernel
theorem dL_act_15 : decode cL_act 15 = .ok (.iconst 1, 1) := by decide +kernel
theorem dL_act_16 : decode cL_act 16 = .ok (.iload_n 2, 1) := by decide +kernel
theorem dL_act_17 : decode cL_act 17 = .ok (.iconst 3, 1) := by decide +kernel
theorem dL_act_18 : decode cL_act 18 = .ok (.ishr, 1) := by decide +kernel
theorem dL_act_19 : decode cL_act 19 = .ok (.bipush 99, 2) := by decide +kernel
theorem dL_act_21 : decode cL_act 21 = .ok (.invokestatic 32, 3) := by decide +kernel
theorem dL_act_24 : decode cL_act 24 = .ok (.iadd, 1) := by decide +kernel
theorem dL_act_25 : decode cL_act 25 = .ok (.istore 5, 2) := by decide +kernel
theorem dL_act_27 : decode cL_act 27 = .ok (.iload_n 1, 1) := by decide +kernel
theorem dL_act_28 : decode cL_act 28 = .ok (.bipush 20, 2) := by decide +kernel
theorem dL_act_30 : decode cL_act 30 = .ok (.invokestatic 32, 3) := by decide +kernel
theorem dL_act_33 : decode cL_act 33 = .ok (.tableswitch 352 0 15 #[79, 79, 119, 119, 146, 146, 146, 169, 200, 214, 231, 231, 237, 237, 303, 333], 79) := by decide +kernel
theorem dL_act_112 : decode cL_act 112 = .ok (.aload_n 0, 1) := by decide +kernel
theorem dL_act_113 : decode cL_act 113 = .ok (.iload_n 3, 1) := by decide +kernel
theorem dL_act_114 : decode cL_act 114 = .ok (.iconst 0, 1) := by decide +kernel
theorem dL_act_115 : decode cL_act 115 = .ok (.invokevirtual 37, 3) := by decide +kernel
theorem dL_act_118 : decode cL_act 118 = .ok (.ifCond .ne 28, 3) := by decide +kernel
theorem dL_act_121 : decode cL_act 121 = .ok (.aload_n 0, 1) := by decide +kernel
theorem dL_act_122 : decode cL_act 122 = .ok (.iload_n 3, 1) := by decide +kernel
theorem dL_act_123 : decode cL_act 123 = .ok (.iconst 0, 1) := by decide +kernel
theorem dL_act_124 : decode cL_act 124 = .ok (.invokevirtual 19, 3) := by decide +kernel
theorem dL_act_127 : decode cL_act 127 = .ok (.iload 5, 2) := by decide +kernel
theorem dL_act_129 : decode cL_act 129 = .ok (.iadd, 1) := by decide +kernel
theorem dL_act_130 : decode cL_act 130 = .ok (.sipush 200, 3) := by decide +kernel
theorem dL_act_133 : decode cL_act 133 = .ok (.if_icmp .gt 13, 3) := by decide +kernel
theorem dL_act_136 : decode cL_act 136 = .ok (.aload_n 0, 1) := by decide +kernel
theorem dL_act_137 : decode cL_act 137 = .ok (.iload_n 3, 1) := by decide +kernel
theorem dL_act_138 : decode cL_act 138 = .ok (.iload 5, 2) := by decide +kernel
theorem dL_act_140 : decode cL_act 140 = .ok (.invokevirtual 40, 3) := by decide +kernel
theorem dL_act_143 : decode cL_act 143 = .ok (.goto 8, 3) := by decide +kernel
theorem dL_act_146 : decode cL_act 146 = .ok (.aload_n 0, 1) := by decide +kernel
theorem dL_act_147 : decode cL_act 147 = .ok (.iconst 1, 1) := by decide +kernel
theorem dL_act_148 : decode cL_act 148 = .ok (.invokevirtual 43, 3) := by decide +kernel
theorem dL_act_151 : decode cL_act 151 = .ok (.ireturn, 1) := by decide +kernel
theorem dL_act_152 : decode cL_act 152 = .ok (.aload_n 0, 1) := by decide +kernel
theorem dL_act_153 : decode cL_act 153 = .ok (.iload_n 3, 1) := by decide +kernel
theorem dL_act_154 : decode cL_act 154 = .ok (.iconst 0, 1) := by decide +kernel
theorem dL_act_155 : decode cL_act 155 = .ok (.invokevirtual 19, 3) := by decide +kernel
theorem dL_act_158 : decode cL_act 158 = .ok (.iload 5, 2) := by decide +kernel
theorem dL_act_160 : decode cL_act 160 = .ok (.if_icmp .lt 13, 3) := by decide +kernel
theorem dL_act_163 : decode cL_act 163 = .ok (.aload_n 0, 1) := by decide +kernel
theorem dL_act_164 : decode cL_act 164 = .ok (.iload_n 3, 1) := by decide +kernel
theorem dL_act_165 : decode cL_act 165 = .ok (.iload 5, 2) := by decide +kernel
theorem dL_act_167 : decode cL_act 167 = .ok (.invokevirtual 46, 3) := by decide +kernel
theorem dL_act_170 : decode cL_act 170 = .ok (.goto 8, 3) := by decide +kernel
theorem dL_act_173 : decode cL_act 173 = .ok (.aload_n 0, 1) := by decide +kernel
theorem dL_act_174 : decode cL_act 174 = .ok (.iconst 2, 1) := by decide +kernel
theorem dL_act_175 : decode cL_act 175 = .ok (.invokevirtual 43, 3) := by decide +kernel
theorem dL_act_178 : decode cL_act 178 = .ok (.ireturn, 1) := by decide +kernel
theorem dL_act_179 : decode cL_act 179 = .ok (.aload_n 0, 1) := by decide +kernel
theorem dL_act_180 : decode cL_act 180 = .ok (.iload_n 3, 1) := by decide +kernel
theorem dL_act_181 : decode cL_act 181 = .ok (.iconst 2, 1) := by decide +kernel
theorem dL_act_182 : decode cL_act 182 = .ok (.invokevirtual 37, 3) := by decide +kernel
theorem dL_act_185 : decode cL_act 185 = .ok (.ifCond .ne 11, 3) := by decide +kernel
theorem dL_act_188 : decode cL_act 188 = .ok (.aload_n 0, 1) := by decide +kernel
theorem dL_act_189 : decode cL_act 189 = .ok (.iload_n 3, 1) := by decide +kernel
theorem dL_act_190 : decode cL_act 190 = .ok (.invokevirtual 49, 3) := by decide +kernel
theorem dL_act_193 : decode cL_act 193 = .ok (.goto 8, 3) := by decide +kernel
theorem dL_act_196 : decode cL_act 196 = .ok (.aload_n 0, 1) := by decide +kernel
theorem dL_act_197 : decode cL_act 197 = .ok (.iconst 1, 1) := by decide +kernel
theorem dL_act_198 : decode cL_act 198 = .ok (.invokevirtual 43, 3) := by decide +kernel
theorem dL_act_201 : decode cL_act 201 = .ok (.ireturn, 1) := by decide +kernel
theorem dL_act_202 : decode cL_act 202 = .ok (.aload_n 0, 1) := by decide +kernel
theorem dL_act_203 : decode cL_act 203 = .ok (.iload_n 3, 1) := by decide +kernel
theorem dL_act_204 : decode cL_act 204 = .ok (.iconst 3, 1) := by decide +kernel
theorem dL_act_205 : decode cL_act 205 = .ok (.invokevirtual 37, 3) := by decide +kernel
theorem dL_act_208 : decode cL_act 208 = .ok (.ifCond .ne 11, 3) := by decide +kernel
theorem dL_act_211 : decode cL_act 211 = .ok (.aload_n 0, 1) := by decide +kernel
theorem dL_act_212 : decode cL_act 212 = .ok (.iload_n 3, 1) := by decide +kernel
theorem dL_act_213 : decode cL_act 213 = .ok (.invokevirtual 52, 3) := by decide +kernel
theorem dL_act_216 : decode cL_act 216 = .ok (.goto 16, 3) := by decide +kernel
theorem dL_act_219 : decode cL_act 219 = .ok (.aload_n 0, 1) := by decide +kernel
theorem dL_act_220 : decode cL_act 220 = .ok (.iload_n 3, 1) := by decide +kernel
theorem dL_act_221 : decode cL_act 221 = .ok (.iload_n 2, 1) := by decide +kernel
theorem dL_act_222 : decode cL_act 222 = .ok (.iconst 3, 1) := by decide +kernel
theorem dL_act_223 : decode cL_act 223 = .ok (.ishr, 1) := by decide +kernel
theorem dL_act_224 : decode cL_act 224 = .ok (.bipush 10, 2) := by decide +kernel
theorem dL_act_226 : decode cL_act 226 = .ok (.invokestatic 32, 3) := by decide +kernel
theorem dL_act_229 : decode cL_act 229 = .ok (.invokevirtual 55, 3) := by decide +kernel
theorem dL_act_232 : decode cL_act 232 = .ok (.ireturn, 1) := by decide +kernel
theorem dL_act_233 : decode cL_act 233 = .ok (.aload_n 0, 1) := by decide +kernel
theorem dL_act_234 : decode cL_act 234 = .ok (.iload_n 3, 1) := by decide +kernel
theorem dL_act_235 : decode cL_act 235 = .ok (.iload_n 2, 1) := by decide +kernel
theorem dL_act_236 : decode cL_act 236 = .ok (.iconst 3, 1) := by decide +kernel
theorem dL_act_237 : decode cL_act 237 = .ok (.ishr, 1) := by decide +kernel
theorem dL_act_238 : decode cL_act 238 = .ok (.bipush 10, 2) := by decide +kernel
theorem dL_act_240 : decode cL_act 240 = .ok (.invokestatic 32, 3) := by decide +kernel
theorem dL_act_243 : decode cL_act 243 = .ok (.invokevirtual 55, 3) := by decide +kernel
theorem dL_act_246 : decode cL_act 246 = .ok (.ireturn, 1) := by decide +kernel
theorem dL_act_247 : decode cL_act 247 = .ok (.aload_n 0, 1) := by decide +kernel
theorem dL_act_248 : decode cL_act 248 = .ok (.iload_n 3, 1) := by decide +kernel
theorem dL_act_249 : decode cL_act 249 = .ok (.iload_n 2, 1) := by decide +kernel
theorem dL_act_250 : decode cL_act 250 = .ok (.iconst 3, 1) := by decide +kernel
theorem dL_act_251 : decode cL_act 251 = .ok (.ishr, 1) := by decide +kernel
theorem dL_act_252 : decode cL_act 252 = .ok (.bipush 41, 2) := by decide +kernel
theorem dL_act_254 : decode cL_act 254 = .ok (.invokestatic 32, 3) := by decide +kernel
theorem dL_act_257 : decode cL_act 257 = .ok (.bipush 20, 2) := by decide +kernel
theorem dL_act_259 : decode cL_act 259 = .ok (.isub, 1) := by decide +kernel
theorem dL_act_260 : decode cL_act 260 = .ok (.invokevirtual 58, 3) := by decide +kernel
theorem dL_act_263 : decode cL_act 263 = .ok (.ireturn, 1) := by decide +kernel
theorem dL_act_264 : decode cL_act 264 = .ok (.aload_n 0, 1) := by decide +kernel
theorem dL_act_265 : decode cL_act 265 = .ok (.iload_n 3, 1) := by decide +kernel
theorem dL_act_266 : decode cL_act 266 = .ok (.invokevirtual 61, 3) := by decide +kernel
theorem dL_act_269 : decode cL_act 269 = .ok (.ireturn, 1) := by decide +kernel
theorem dL_act_270 : decode cL_act 270 = .ok (.aload_n 0, 1) := by decide +kernel
theorem dL_act_271 : decode cL_act 271 = .ok (.iload 4, 2) := by decide +kernel
theorem dL_act_273 : decode cL_act 273 = .ok (.iconst 5, 1) := by decide +kernel
theorem dL_act_274 : decode cL_act 274 = .ok (.invokevirtual 37, 3) := by decide +kernel
theorem dL_act_277 : decode cL_act 277 = .ok (.ifCond .ne 12, 3) := by decide +kernel
theorem dL_act_280 : decode cL_act 280 = .ok (.aload_n 0, 1) := by decide +kernel
theorem dL_act_281 : decode cL_act 281 = .ok (.iload 4, 2) := by decide +kernel
theorem dL_act_283 : decode cL_act 283 = .ok (.invokevirtual 64, 3) := by decide +kernel
theorem dL_act_286 : decode cL_act 286 = .ok (.goto 49, 3) := by decide +kernel
theorem dL_act_289 : decode cL_act 289 = .ok (.aload_n 0, 1) := by decide +kernel
theorem dL_act_290 : decode cL_act 290 = .ok (.iload 4, 2) := by decide +kernel
theorem dL_act_292 : decode cL_act 292 = .ok (.iconst 4, 1) := by decide +kernel
theorem dL_act_293 : decode cL_act 293 = .ok (.invokevirtual 37, 3) := by decide +kernel
theorem dL_act_296 : decode cL_act 296 = .ok (.ifCond .ne 24, 3) := by decide +kernel
theorem dL_act_299 : decode cL_act 299 = .ok (.aload_n 0, 1) := by decide +kernel
theorem dL_act_300 : decode cL_act 300 = .ok (.iload 4, 2) := by decide +kernel
theorem dL_act_302 : decode cL_act 302 = .ok (.bipush 100, 2) := by decide +kernel
theorem dL_act_304 : decode cL_act 304 = .ok (.iload_n 2, 1) := by decide +kernel
theorem dL_act_305 : decode cL_act 305 = .ok (.iconst 3, 1) := by decide +kernel
theorem dL_act_306 : decode cL_act 306 = .ok (.ishr, 1) := by decide +kernel
theorem dL_act_307 : decode cL_act 307 = .ok (.sipush 201, 3) := by decide +kernel
theorem dL_act_310 : decode cL_act 310 = .ok (.invokestatic 32, 3) := by decide +kernel
theorem dL_act_313 : decode cL_act 313 = .ok (.iadd, 1) := by decide +kernel
theorem dL_act_314 : decode cL_act 314 = .ok (.invokevirtual 67, 3) := by decide +kernel
theorem dL_act_317 : decode cL_act 317 = .ok (.goto 18, 3) := by decide +kernel
theorem dL_act_320 : decode cL_act 320 = .ok (.aload_n 0, 1) := by decide +kernel
theorem dL_act_321 : decode cL_act 321 = .ok (.iload 4, 2) := by decide +kernel
theorem dL_act_323 : decode cL_act 323 = .ok (.iload_n 2, 1) := by decide +kernel
theorem dL_act_324 : decode cL_act 324 = .ok (.iconst 3, 1) := by decide +kernel
theorem dL_act_325 : decode cL_act 325 = .ok (.ishr, 1) := by decide +kernel
theorem dL_act_326 : decode cL_act 326 = .ok (.sipush 501, 3) := by decide +kernel
theorem dL_act_329 : decode cL_act 329 = .ok (.invokestatic 32, 3) := by decide +kernel
theorem dL_act_332 : decode cL_act 332 = .ok (.invokevirtual 70, 3) := by decide +kernel
theorem dL_act_335 : decode cL_act 335 = .ok (.ireturn, 1) := by decide +kernel
theorem dL_act_336 : decode cL_act 336 = .ok (.aload_n 0, 1) := by decide +kernel
theorem dL_act_337 : decode cL_act 337 = .ok (.iload 4, 2) := by decide +kernel
theorem dL_act_339 : decode cL_act 339 = .ok (.iload_n 2, 1) := by decide +kernel
theorem dL_act_340 : decode cL_act 340 = .ok (.iconst 3, 1) := by decide +kernel
theorem dL_act_341 : decode cL_act 341 = .ok (.ishr, 1) := by decide +kernel
theorem dL_act_342 : decode cL_act 342 = .ok (.iload_n 2, 1) := by decide +kernel
theorem dL_act_343 : decode cL_act 343 = .ok (.bipush 12, 2) := by decide +kernel
theorem dL_act_345 : decode cL_act 345 = .ok (.ishr, 1) := by decide +kernel
theorem dL_act_346 : decode cL_act 346 = .ok (.iconst 1, 1) := by decide +kernel
theorem dL_act_347 : decode cL_act 347 = .ok (.iand, 1) := by decide +kernel
theorem dL_act_348 : decode cL_act 348 = .ok (.ifCond .ne 9, 3) := by decide +kernel
theorem dL_act_351 : decode cL_act 351 = .ok (.sipush 501, 3) := by decide +kernel
theorem dL_act_354 : decode cL_act 354 = .ok (.goto 5, 3) := by decide +kernel
theorem dL_act_357 : decode cL_act 357 = .ok (.bipush 50, 2) := by decide +kernel
theorem dL_act_359 : decode cL_act 359 = .ok (.invokestatic 32, 3) := by decide +kernel
theorem dL_act_362 : decode cL_act 362 = .ok (.invokevirtual 70, 3) := by decide +kernel
theorem dL_act_365 : decode cL_act 365 = .ok (.ireturn, 1) := by decide +kernel
theorem dL_act_366 : decode cL_act 366 = .ok (.iload_n 2, 1) := by decide +kernel
theorem dL_act_367 : decode cL_act 367 = .ok (.iconst 3, 1) := by decide +kernel
theorem dL_act_368 : decode cL_act 368 = .ok (.iand, 1) := by decide +kernel
theorem dL_act_369 : decode cL_act 369 = .ok (.ifCond .ne 10, 3) := by decide +kernel
theorem dL_act_372 : decode cL_act 372 = .ok (.aload_n 0, 1) := by decide +kernel
theorem dL_act_373 : decode cL_act 373 = .ok (.invokevirtual 73, 3) := by decide +kernel
theorem dL_act_376 : decode cL_act 376 = .ok (.goto 8, 3) := by decide +kernel
theorem dL_act_379 : decode cL_act 379 = .ok (.aload_n 0, 1) := by decide +kernel
theorem dL_act_380 : decode cL_act 380 = .ok (.iconst 3, 1) := by decide +kernel
theorem dL_act_381 : decode cL_act 381 = .ok (.invokevirtual 43, 3) := by decide +kernel
theorem dL_act_384 : decode cL_act 384 = .ok (.ireturn, 1) := by decide +kernel
theorem dL_act_385 : decode cL_act 385 = .ok (.aload_n 0, 1) := by decide +kernel
theorem dL_act_386 : decode cL_act 386 = .ok (.iconst 1, 1) := by decide +kernel
theorem dL_act_387 : decode cL_act 387 = .ok (.iload_n 2, 1) := by decide +kernel
theorem dL_act_388 : decode cL_act 388 = .ok (.iload_n 2, 1) := by decide +kernel
theorem dL_act_389 : decode cL_act 389 = .ok (.bipush 8, 2) := by decide +kernel
theorem dL_act_391 : decode cL_act 391 = .ok (.ishr, 1) := by decide +kernel
theorem dL_act_392 : decode cL_act 392 = .ok (.iconst 3, 1) := by decide +kernel
theorem dL_act_393 : decode cL_act 393 = .ok (.iand, 1) := by decide +kernel
theorem dL_act_394 : decode cL_act 394 = .ok (.ifCond .ne 8, 3) := by decide +kernel
theorem dL_act_397 : decode cL_act 397 = .ok (.bipush 25, 2) := by decide +kernel
theorem dL_act_399 : decode cL_act 399 = .ok (.goto 4, 3) := by decide +kernel
theorem dL_act_402 : decode cL_act 402 = .ok (.iconst 4, 1) := by decide +kernel
theorem dL_act_403 : decode cL_act 403 = .ok (.invokestatic 32, 3) := by decide +kernel
theorem dL_act_406 : decode cL_act 406 = .ok (.iadd, 1) := by decide +kernel
theorem dL_act_407 : decode cL_act 407 = .ok (.invokevirtual 43, 3) := by decide +kernel
theorem dL_act_410 : decode cL_act 410 = .ok (.ireturn, 1) := by decide +kernel
