set_option maxRecDepth 20000 in
theorem ggL_isAhead_L_looks : GoodIn wsL_isAhead wsL_looks := goodIn_ca (goodIn_ca (goodIn_r _ [4, 5, 6, 7, 8, 9, 10, 11, 12, 13, 14, 15, 16, 17, 18, 19, 20, 21, 22, 23, 24, 25, 26, 27, 28, 29, 30, 31, 32, 33, 34, 35, 36, 37, 38, 39, 40, 41, 42, 43, 44, 45, 46, 47, 48, 49, 50, 51, 52, 53, 54, 55, 56, 57, 58, 59, 60, 61, 62, 63, 64, 65, 66, 67, 68, 69, 70, 71, 72, 73, 74, 75, 76, 77, 78, 79, 80, 81, 82, 83, 84, 85, 86, 87, 88, 89, 90, 91, 92, 93, 94, 95, 96, 97, 98, 99, 100, 101, 102, 103, 104, 105, 106, 107, 108, 109, 110, 111, 112, 113, 114, 115, 116, 117, 118, 119, 120, 121, 122, 123, 124, 125, 126, 127, 128, 129, 130, 131, 132, 133, 134, 135, 136, 137, 138, 139, 140, 141, 142, 143, 144, 145, 146, 147, 148, 149, 150, 151, 152, 324, 325, 326, 327, 328, 329, 330, 331, 332, 333, 334, 335, 336, 337, 338, 339, 340, 341, 342, 343, 344, 345, 346, 347, 348, 349, 350, 351, 352, 353, 354, 355] (by decide +kernel) (by decide +kernel)) (goodIn_sub (fun _ h => List.mem_cons_of_mem _ (List.mem_append_left _ (List.mem_append_left _ (List.mem_append_right _ h)))) (by decide +kernel))) (goodIn_sub (fun _ h => List.mem_cons_of_mem _ (List.mem_append_left _ (List.mem_append_right _ h))) (by decide +kernel))
set_option maxRecDepth 20000 in
theorem gL_isAhead_L_looks : GoodIn wsL_isAhead (va_wsS RL 93 yL_looks wsL_looks) := goodIn_app (goodIn_of _ (by decide +kernel)) ggL_isAhead_L_looks
set_option maxRecDepth 20000 in
theorem ggL_isAhead_X6_count : GoodIn wsL_isAhead wsX6_count := goodIn_ca (goodIn_r _ [11, 12, 13, 14, 15, 16, 17, 18, 19, 20, 21, 22, 23, 24, 25, 10, 26, 27, 28, 29, 30, 31, 32, 33, 34, 35, 36, 37, 38, 39, 40, 41, 42, 43, 44, 45, 46, 47, 48, 49, 50, 51, 52, 324, 325, 326, 327, 328, 329, 330, 331, 332, 333, 334, 335, 336, 337, 338, 339, 340, 341, 342, 343, 344, 345, 346, 347, 348, 349, 350, 351, 352, 353, 354, 355] (by decide +kernel) (by decide +kernel)) (goodIn_sub (fun _ h => List.mem_cons_of_mem _ (List.mem_append_left _ (List.mem_append_left _ (List.mem_append_right _ h)))) (by decide +kernel))
set_option maxRecDepth 20000 in
theorem gL_isAhead_X6_count : GoodIn wsL_isAhead (wsV RL 13 RX6 yX6_count wsX6_count) := goodIn_app (goodIn_of _ (by decide +kernel)) ggL_isAhead_X6_count
set_option maxRecDepth 20000 in
theorem ggL_isAhead_X6_balloon : GoodIn wsL_isAhead wsX6_balloon := goodIn_ca (goodIn_ca (goodIn_r _ [56, 12, 14, 57, 58, 59, 60, 61, 13, 62, 63, 64, 10, 65, 66, 67, 24, 25, 26, 27, 28, 68, 69, 70, 32, 71, 34, 72, 73, 74, 75, 76, 77, 78, 79, 80, 81, 82, 83, 84, 85, 86, 87, 88, 39, 89, 90, 91, 92, 93, 94, 95, 96, 97, 98, 99, 100, 101, 102, 103, 104, 105, 106, 107, 108, 109, 324, 325, 326, 327, 328, 329, 330, 331, 332, 333, 334, 335, 336, 337, 338, 339, 340, 341, 342, 349, 350, 351, 352, 353, 354, 355] (by decide +kernel) (by decide +kernel)) (goodIn_sub (fun _ h => List.mem_cons_of_mem _ (List.mem_append_left _ (List.mem_append_right _ h))) (by decide +kernel))) (goodIn_sub (fun _ h => List.mem_cons_of_mem _ (List.mem_append_left _ (List.mem_append_left _ (List.mem_append_right _ h)))) (by decide +kernel))
set_option maxRecDepth 20000 in
theorem gL_isAhead_X6_balloon : GoodIn wsL_isAhead (wsV RL 19 RX6 yX6_balloon wsX6_balloon) := goodIn_app (goodIn_of _ (by decide +kernel)) ggL_isAhead_X6_balloon
set_option maxRecDepth 20000 in
theorem ggL_isAhead_X6_ifDropped : GoodIn wsL_isAhead wsX6_ifDropped := goodIn_ca (goodIn_ca (goodIn_r _ [156, 12, 14, 58, 157, 60, 63, 64, 10, 65, 66, 67, 24, 25, 26, 27, 28, 158, 159, 160, 32, 161, 34, 162, 163, 164, 165, 72, 166, 39, 89, 145, 44, 167, 168, 169, 170, 90, 74, 75, 76, 77, 78, 79, 80, 81, 82, 83, 84, 69, 70, 71, 171, 172, 173, 174, 40, 41, 42, 43, 175, 176, 177, 178, 179, 142, 143, 144, 146, 134, 135, 136, 137, 138, 139, 140, 324, 325, 326, 327, 328, 329, 330, 331, 332, 333, 334, 335, 336, 337, 338, 339, 340, 341, 342, 349, 350, 351, 352, 353, 354, 355] (by decide +kernel) (by decide +kernel)) (goodIn_sub (fun _ h => List.mem_cons_of_mem _ (List.mem_append_left _ (List.mem_append_right _ h))) (by decide +kernel))) (goodIn_sub (fun _ h => List.mem_cons_of_mem _ (List.mem_append_left _ (List.mem_append_left _ (List.mem_append_right _ h)))) (by decide +kernel))
set_option maxRecDepth 20000 in
theorem gL_isAhead_X6_ifDropped : GoodIn wsL_isAhead (wsV RL 80 RX6 yX6_ifDropped wsX6_ifDropped) := goodIn_app (goodIn_of _ (by decide +kernel)) ggL_isAhead_X6_ifDropped
set_option maxRecDepth 20000 in
theorem ggL_isAhead_X6_drop : GoodIn wsL_isAhead wsX6_drop := goodIn_ca (goodIn_ca (goodIn_r _ [183, 12, 14, 60, 63, 64, 10, 65, 66, 67, 184, 185, 186, 187, 188, 189, 22, 190, 191, 192, 32, 193, 34, 44, 72, 39, 194, 195, 196, 197, 198, 199, 79, 200, 201, 202, 203, 204, 205, 206, 207, 208, 209, 210, 211, 212, 213, 214, 94, 215, 96, 216, 98, 217, 163, 164, 165, 100, 99, 218, 219, 220, 221, 222, 223, 224, 225, 159, 160, 161, 162, 166, 89, 145, 226, 227, 228, 117, 229, 120, 230, 121, 122, 119, 231, 232, 233, 234, 235, 236, 237, 238, 239, 168, 169, 170, 90, 74, 75, 76, 77, 78, 80, 81, 82, 83, 84, 69, 70, 71, 171, 172, 173, 174, 324, 325, 326, 327, 328, 329, 330, 331, 332, 333, 334, 335, 336, 337, 338, 339, 340, 341, 342, 349, 350, 351, 352, 353, 354, 355, 347, 348, 343, 344, 345, 346] (by decide +kernel) (by decide +kernel)) (goodIn_sub (fun _ h => List.mem_cons_of_mem _ (List.mem_append_left _ (List.mem_append_right _ h))) (by decide +kernel))) (goodIn_sub (fun _ h => List.mem_cons_of_mem _ (List.mem_append_right _ h)) (by decide +kernel))
set_option maxRecDepth 20000 in
theorem gL_isAhead_X6_drop : GoodIn wsL_isAhead (wsV RL 49 RX6 yX6_drop wsX6_drop) := goodIn_app (goodIn_of _ (by decide +kernel)) ggL_isAhead_X6_drop
set_option maxRecDepth 20000 in
theorem ggL_isAhead_X6_undo : GoodIn wsL_isAhead wsX6_undo := goodIn_ca (goodIn_r _ [243, 188, 189, 22, 23, 12, 244, 245, 246, 204, 247, 206, 207, 212, 213, 214, 94, 215, 96, 216, 98, 217, 163, 164, 165, 100, 99, 218, 219, 220, 221, 222, 223, 224, 225, 159, 160, 32, 161, 34, 162, 72, 166, 39, 89, 145, 44, 226, 227, 228, 117, 229, 120, 230, 121, 122, 119, 324, 325, 326, 327, 328, 329, 330, 347, 348, 331, 332, 333, 334, 335, 336, 337, 338, 339, 340, 341, 342, 349, 350, 351, 352, 353, 354, 355, 343, 344, 345, 346] (by decide +kernel) (by decide +kernel)) (goodIn_sub (fun _ h => List.mem_cons_of_mem _ (List.mem_append_right _ h)) (by decide +kernel))
set_option maxRecDepth 20000 in
theorem gL_isAhead_X6_undo : GoodIn wsL_isAhead (wsV RL 97 RX6 yX6_undo wsX6_undo) := goodIn_app (goodIn_of _ (by decide +kernel)) ggL_isAhead_X6_undo
set_option maxRecDepth 20000 in
theorem ggL_isAhead_X6_ribbon : GoodIn wsL_isAhead wsX6_ribbon := goodIn_ca (goodIn_ca (goodIn_r _ [126, 12, 14, 127, 128, 129, 130, 131, 10, 132, 66, 67, 24, 25, 26, 27, 28, 133, 134, 135, 32, 136, 39, 44, 89, 137, 138, 139, 140, 90, 74, 75, 76, 77, 78, 79, 80, 81, 82, 83, 84, 69, 70, 71, 34, 72, 141, 142, 143, 144, 145, 146, 324, 325, 326, 327, 328, 329, 330, 331, 332, 333, 334, 335, 336, 337, 338, 339, 340, 341, 342, 349, 350, 351, 352, 353, 354, 355] (by decide +kernel) (by decide +kernel)) (goodIn_sub (fun _ h => List.mem_cons_of_mem _ (List.mem_append_left _ (List.mem_append_right _ h))) (by decide +kernel))) (goodIn_sub (fun _ h => List.mem_cons_of_mem _ (List.mem_append_left _ (List.mem_append_left _ (List.mem_append_right _ h)))) (by decide +kernel))
set_option maxRecDepth 20000 in
theorem gL_isAhead_X6_ribbon : GoodIn wsL_isAhead (wsV RL 26 RX6 yX6_ribbon wsX6_ribbon) := goodIn_app (goodIn_of _ (by decide +kernel)) ggL_isAhead_X6_ribbon
set_option maxRecDepth 20000 in
theorem ggL_isAhead_X6_cut : GoodIn wsL_isAhead wsX6_cut := goodIn_ca (goodIn_ca (goodIn_r _ [251, 12, 14, 130, 131, 10, 132, 66, 67, 40, 41, 42, 32, 43, 44, 184, 185, 186, 187, 188, 189, 22, 190, 191, 192, 193, 34, 72, 39, 194, 195, 196, 197, 198, 199, 79, 200, 201, 202, 203, 204, 205, 206, 207, 208, 209, 210, 211, 212, 213, 214, 94, 215, 96, 216, 98, 217, 163, 164, 165, 100, 99, 218, 219, 220, 221, 222, 223, 224, 225, 159, 160, 161, 162, 166, 89, 145, 226, 227, 228, 117, 229, 120, 230, 121, 122, 119, 231, 232, 233, 234, 235, 236, 237, 238, 239, 168, 169, 170, 90, 74, 75, 76, 77, 78, 80, 81, 82, 83, 84, 69, 70, 71, 171, 172, 173, 174, 324, 325, 326, 327, 328, 329, 330, 331, 332, 333, 334, 335, 336, 337, 338, 339, 340, 341, 342, 349, 350, 351, 352, 353, 354, 355, 347, 348, 343, 344, 345, 346] (by decide +kernel) (by decide +kernel)) (goodIn_sub (fun _ h => List.mem_cons_of_mem _ (List.mem_append_left _ (List.mem_append_right _ h))) (by decide +kernel))) (goodIn_sub (fun _ h => List.mem_cons_of_mem _ (List.mem_append_right _ h)) (by decide +kernel))
set_option maxRecDepth 20000 in
theorem gL_isAhead_X6_cut : GoodIn wsL_isAhead (wsV RL 64 RX6 yX6_cut wsX6_cut) := goodIn_app (goodIn_of _ (by decide +kernel)) ggL_isAhead_X6_cut
set_option maxRecDepth 20000 in
theorem ggL_isAhead_X6_why : GoodIn wsL_isAhead wsX6_why := goodIn_ca (goodIn_ca (goodIn_r _ [255, 12, 14, 63, 64, 10, 65, 66, 67, 130, 131, 132, 24, 25, 26, 27, 28, 190, 191, 192, 32, 193, 34, 44, 72, 39, 194, 195, 196, 197, 198, 199, 79, 200, 324, 325, 326, 327, 328, 329, 330, 331, 332, 333, 334, 335, 336, 337, 338, 339, 340, 341, 342, 349, 350, 351, 352, 353, 354, 355] (by decide +kernel) (by decide +kernel)) (goodIn_sub (fun _ h => List.mem_cons_of_mem _ (List.mem_append_left _ (List.mem_append_right _ h))) (by decide +kernel))) (goodIn_sub (fun _ h => List.mem_cons_of_mem _ (List.mem_append_left _ (List.mem_append_left _ (List.mem_append_right _ h)))) (by decide +kernel))
set_option maxRecDepth 20000 in
theorem gL_isAhead_X6_why : GoodIn wsL_isAhead (wsV RL 37 RX6 yX6_why wsX6_why) := goodIn_app (goodIn_of _ (by decide +kernel)) ggL_isAhead_X6_why
set_option maxRecDepth 20000 in
theorem ggL_isAhead_X6_tie : GoodIn wsL_isAhead wsX6_tie := goodIn_ca (goodIn_ca (goodIn_ca (goodIn_r _ [259, 12, 14, 130, 131, 10, 132, 66, 67, 24, 25, 26, 27, 28, 184, 185, 186, 187, 188, 189, 22, 190, 191, 192, 32, 193, 34, 44, 72, 39, 194, 195, 196, 197, 198, 199, 79, 200, 201, 202, 203, 204, 205, 206, 207, 208, 209, 210, 211, 212, 213, 214, 94, 215, 96, 216, 98, 217, 163, 164, 165, 100, 99, 218, 219, 220, 221, 222, 223, 224, 225, 159, 160, 161, 162, 166, 89, 145, 226, 227, 228, 117, 229, 120, 230, 121, 122, 119, 231, 232, 233, 234, 235, 236, 237, 238, 239, 168, 169, 170, 90, 74, 75, 76, 77, 78, 80, 81, 82, 83, 84, 69, 70, 71, 171, 172, 173, 174, 105, 106, 107, 108, 109, 102, 103, 104, 324, 325, 326, 327, 328, 329, 330, 331, 332, 333, 334, 335, 336, 337, 338, 339, 340, 341, 342, 349, 350, 351, 352, 353, 354, 355, 347, 348, 343, 344, 345, 346] (by decide +kernel) (by decide +kernel)) (goodIn_sub (fun _ h => List.mem_cons_of_mem _ (List.mem_append_left _ (List.mem_append_right _ h))) (by decide +kernel))) (goodIn_sub (fun _ h => List.mem_cons_of_mem _ (List.mem_append_left _ (List.mem_append_left _ (List.mem_append_right _ h)))) (by decide +kernel))) (goodIn_sub (fun _ h => List.mem_cons_of_mem _ (List.mem_append_right _ h)) (by decide +kernel))
set_option maxRecDepth 20000 in
theorem gL_isAhead_X6_tie : GoodIn wsL_isAhead (wsV RL 67 RX6 yX6_tie wsX6_tie) := goodIn_app (goodIn_of _ (by decide +kernel)) ggL_isAhead_X6_tie
set_option maxRecDepth 20000 in
theorem ggL_isAhead_X6_snapsIn : GoodIn wsL_isAhead wsX6_snapsIn := goodIn_r _ [263, 264, 12, 14, 265, 266, 267, 268, 269, 270, 271, 272, 273, 274, 159, 160, 32, 161, 34, 162, 163, 164, 165, 72, 166, 39, 89, 145, 44, 275, 276, 277, 278, 279, 280, 281, 282, 283, 284, 285, 286, 287, 77, 78, 79, 80, 288, 168, 169, 170, 90, 74, 75, 76, 81, 82, 83, 84, 69, 70, 71, 171, 172, 173, 174, 289, 290, 291, 292, 146, 134, 135, 136, 137, 138, 139, 140, 324, 325, 326, 327, 328, 329, 330, 331, 332, 333, 334, 335, 336, 337, 338, 339, 340, 341, 342, 356, 357, 358, 349, 350, 351, 352, 353, 354, 355] (by decide +kernel) (by decide +kernel)
set_option maxRecDepth 20000 in
theorem gL_isAhead_X6_snapsIn : GoodIn wsL_isAhead (wsV RL 100 RX6 yX6_snapsIn wsX6_snapsIn) := goodIn_app (goodIn_of _ (by decide +kernel)) ggL_isAhead_X6_snapsIn
set_option maxRecDepth 20000 in
theorem ggL_isAhead_X6_pass : GoodIn wsL_isAhead wsX6_pass := goodIn_ca (goodIn_r _ [296, 22, 12, 18, 24, 25, 10, 26, 27, 28, 201, 202, 203, 204, 205, 206, 207, 208, 209, 210, 211, 212, 213, 214, 94, 215, 96, 216, 98, 217, 163, 164, 165, 100, 99, 218, 219, 220, 221, 222, 223, 224, 225, 159, 160, 32, 161, 34, 162, 72, 166, 39, 89, 145, 44, 226, 227, 228, 117, 229, 120, 230, 121, 122, 119, 297, 298, 299, 300, 301, 285, 286, 287, 77, 78, 79, 80, 288, 168, 169, 170, 90, 74, 75, 76, 81, 82, 83, 84, 69, 70, 71, 171, 172, 173, 174, 302, 290, 291, 292, 146, 134, 135, 136, 137, 138, 139, 140, 324, 325, 326, 327, 328, 329, 330, 331, 332, 333, 334, 335, 336, 337, 338, 339, 340, 341, 342, 347, 348, 349, 350, 351, 352, 353, 354, 355, 343, 344, 345, 346] (by decide +kernel) (by decide +kernel)) (goodIn_sub (fun _ h => List.mem_cons_of_mem _ (List.mem_append_left _ (List.mem_append_left _ (List.mem_append_right _ h)))) (by decide +kernel))
set_option maxRecDepth 20000 in
theorem gL_isAhead_X6_pass : GoodIn wsL_isAhead (wsV RL 43 RX6 yX6_pass wsX6_pass) := goodIn_app (goodIn_of _ (by decide +kernel)) ggL_isAhead_X6_pass
set_option maxRecDepth 20000 in
theorem ggL_isAhead_X6_note : GoodIn wsL_isAhead wsX6_note := goodIn_ca (goodIn_r _ [306, 22, 12, 63, 64, 10, 65, 66, 67, 201, 202, 203, 204, 205, 206, 207, 208, 209, 210, 211, 212, 213, 214, 94, 215, 96, 216, 98, 217, 163, 164, 165, 100, 99, 218, 219, 220, 221, 222, 223, 224, 225, 159, 160, 32, 161, 34, 162, 72, 166, 39, 89, 145, 44, 226, 227, 228, 117, 229, 120, 230, 121, 122, 119, 307, 308, 309, 310, 311, 92, 93, 95, 97, 312, 313, 314, 315, 316, 317, 318, 319, 320, 321, 322, 323, 91, 324, 325, 326, 327, 328, 329, 330, 347, 348, 331, 332, 333, 334, 335, 336, 337, 338, 339, 340, 341, 342, 349, 350, 351, 352, 353, 354, 355, 343, 344, 345, 346] (by decide +kernel) (by decide +kernel)) (goodIn_sub (fun _ h => List.mem_cons_of_mem _ (List.mem_append_left _ (List.mem_append_right _ h))) (by decide +kernel))
set_option maxRecDepth 20000 in
theorem gL_isAhead_X6_note : GoodIn wsL_isAhead (wsV RL 61 RX6 yX6_note wsX6_note) := goodIn_app (goodIn_of _ (by decide +kernel)) ggL_isAhead_X6_note
theorem dL_isAhead_0 : decode cL_isAhead 0 = .ok (.aload_n 0, 1) := by decide +kernel
theorem dL_isAhead_1 : decode cL_isAhead 1 = .ok (.invokestatic 93, 3) := by decide +kernel
theorem dL_isAhead_4 : decode cL_isAhead 4 = .ok (.lstore_n 3, 1) := by decide +kernel
theorem dL_isAhead_5 : decode cL_isAhead 5 = .ok (.aload_n 0, 1) := by decide +kernel
theorem dL_isAhead_6 : decode cL_isAhead 6 = .ok (.bipush 9, 2) := by decide +kernel
theorem dL_isAhead_8 : decode cL_isAhead 8 = .ok (.invokevirtual 13, 3) := by decide +kernel
theorem dL_isAhead_11 : decode cL_isAhead 11 = .ok (.istore 5, 2) := by decide +kernel
theorem dL_isAhead_13 : decode cL_isAhead 13 = .ok (.iconst 1, 1) := by decide +kernel
theorem dL_isAhead_14 : decode cL_isAhead 14 = .ok (.istore 6, 2) := by decide +kernel
theorem dL_isAhead_16 : decode cL_isAhead 16 = .ok (.aload_n 0, 1) := by decide +kernel
theorem dL_isAhead_17 : decode cL_isAhead 17 = .ok (.iload_n 1, 1) := by decide +kernel
theorem dL_isAhead_18 : decode cL_isAhead 18 = .ok (.iconst 1, 1) := by decide +kernel
theorem dL_isAhead_19 : decode cL_isAhead 19 = .ok (.invokevirtual 19, 3) := by decide +kernel
theorem dL_isAhead_22 : decode cL_isAhead 22 = .ok (.ifCond .le 61, 3) := by decide +kernel
theorem dL_isAhead_25 : decode cL_isAhead 25 = .ok (.aload_n 0, 1) := by decide +kernel
theorem dL_isAhead_26 : decode cL_isAhead 26 = .ok (.iload_n 1, 1) := by decide +kernel
theorem dL_isAhead_27 : decode cL_isAhead 27 = .ok (.iconst 0, 1) := by decide +kernel
theorem dL_isAhead_28 : decode cL_isAhead 28 = .ok (.invokevirtual 80, 3) := by decide +kernel
theorem dL_isAhead_31 : decode cL_isAhead 31 = .ok (.istore 7, 2) := by decide +kernel
theorem dL_isAhead_33 : decode cL_isAhead 33 = .ok (.aload_n 0, 1) := by decide +kernel
theorem dL_isAhead_34 : decode cL_isAhead 34 = .ok (.iload_n 1, 1) := by decide +kernel
theorem dL_isAhead_35 : decode cL_isAhead 35 = .ok (.iconst 1, 1) := by decide +kernel
theorem dL_isAhead_36 : decode cL_isAhead 36 = .ok (.invokevirtual 80, 3) := by decide +kernel
theorem dL_isAhead_39 : decode cL_isAhead 39 = .ok (.istore 8, 2) := by decide +kernel
theorem dL_isAhead_41 : decode cL_isAhead 41 = .ok (.iload 8, 2) := by decide +kernel
theorem dL_isAhead_43 : decode cL_isAhead 43 = .ok (.iload 5, 2) := by decide +kernel
theorem dL_isAhead_45 : decode cL_isAhead 45 = .ok (.if_icmp .lt 35, 3) := by decide +kernel
theorem dL_isAhead_48 : decode cL_isAhead 48 = .ok (.aload_n 0, 1) := by decide +kernel
theorem dL_isAhead_49 : decode cL_isAhead 49 = .ok (.iload_n 1, 1) := by decide +kernel
theorem dL_isAhead_50 : decode cL_isAhead 50 = .ok (.invokevirtual 49, 3) := by decide +kernel
theorem dL_isAhead_53 : decode cL_isAhead 53 = .ok (.iload 7, 2) := by decide +kernel
theorem dL_isAhead_55 : decode cL_isAhead 55 = .ok (.if_icmp .ne 25, 3) := by decide +kernel
theorem dL_isAhead_58 : decode cL_isAhead 58 = .ok (.aload_n 0, 1) := by decide +kernel
theorem dL_isAhead_59 : decode cL_isAhead 59 = .ok (.bipush 9, 2) := by decide +kernel
theorem dL_isAhead_61 : decode cL_isAhead 61 = .ok (.invokevirtual 13, 3) := by decide +kernel
theorem dL_isAhead_64 : decode cL_isAhead 64 = .ok (.iload 8, 2) := by decide +kernel
theorem dL_isAhead_66 : decode cL_isAhead 66 = .ok (.if_icmp .ne 14, 3) := by decide +kernel
theorem dL_isAhead_69 : decode cL_isAhead 69 = .ok (.aload_n 0, 1) := by decide +kernel
theorem dL_isAhead_70 : decode cL_isAhead 70 = .ok (.invokevirtual 97, 3) := by decide +kernel
theorem dL_isAhead_73 : decode cL_isAhead 73 = .ok (.ifCond .lt 7, 3) := by decide +kernel
theorem dL_isAhead_76 : decode cL_isAhead 76 = .ok (.iconst 1, 1) := by decide +kernel
theorem dL_isAhead_77 : decode cL_isAhead 77 = .ok (.goto 4, 3) := by decide +kernel
theorem dL_isAhead_80 : decode cL_isAhead 80 = .ok (.iconst 0, 1) := by decide +kernel
theorem dL_isAhead_81 : decode cL_isAhead 81 = .ok (.istore 6, 2) := by decide +kernel
theorem dL_isAhead_83 : decode cL_isAhead 83 = .ok (.iload 6, 2) := by decide +kernel
theorem dL_isAhead_85 : decode cL_isAhead 85 = .ok (.ifCond .eq 65, 3) := by decide +kernel
theorem dL_isAhead_88 : decode cL_isAhead 88 = .ok (.aload_n 0, 1) := by decide +kernel
theorem dL_isAhead_89 : decode cL_isAhead 89 = .ok (.iload_n 2, 1) := by decide +kernel
theorem dL_isAhead_90 : decode cL_isAhead 90 = .ok (.iconst 0, 1) := by decide +kernel
theorem dL_isAhead_91 : decode cL_isAhead 91 = .ok (.invokevirtual 26, 3) := by decide +kernel
theorem dL_isAhead_94 : decode cL_isAhead 94 = .ok (.iconst 1, 1) := by decide +kernel
theorem dL_isAhead_95 : decode cL_isAhead 95 = .ok (.if_icmp .ne 55, 3) := by decide +kernel
theorem dL_isAhead_98 : decode cL_isAhead 98 = .ok (.aload_n 0, 1) := by decide +kernel
theorem dL_isAhead_99 : decode cL_isAhead 99 = .ok (.iload_n 2, 1) := by decide +kernel
theorem dL_isAhead_100 : decode cL_isAhead 100 = .ok (.invokevirtual 64, 3) := by decide +kernel
theorem dL_isAhead_103 : decode cL_isAhead 103 = .ok (.istore 7, 2) := by decide +kernel
theorem dL_isAhead_105 : decode cL_isAhead 105 = .ok (.iload 7, 2) := by decide +kernel
theorem dL_isAhead_107 : decode cL_isAhead 107 = .ok (.ifCond .lt 37, 3) := by decide +kernel
theorem dL_isAhead_110 : decode cL_isAhead 110 = .ok (.aload_n 0, 1) := by decide +kernel
theorem dL_isAhead_111 : decode cL_isAhead 111 = .ok (.bipush 9, 2) := by decide +kernel
theorem dL_isAhead_113 : decode cL_isAhead 113 = .ok (.invokevirtual 13, 3) := by decide +kernel
theorem dL_isAhead_116 : decode cL_isAhead 116 = .ok (.iload 5, 2) := by decide +kernel
theorem dL_isAhead_118 : decode cL_isAhead 118 = .ok (.iload 7, 2) := by decide +kernel
theorem dL_isAhead_120 : decode cL_isAhead 120 = .ok (.iadd, 1) := by decide +kernel
theorem dL_isAhead_121 : decode cL_isAhead 121 = .ok (.if_icmp .ne 23, 3) := by decide +kernel
theorem dL_isAhead_124 : decode cL_isAhead 124 = .ok (.aload_n 0, 1) := by decide +kernel
theorem dL_isAhead_125 : decode cL_isAhead 125 = .ok (.iload_n 2, 1) := by decide +kernel
theorem dL_isAhead_126 : decode cL_isAhead 126 = .ok (.iconst 0, 1) := by decide +kernel
theorem dL_isAhead_127 : decode cL_isAhead 127 = .ok (.invokevirtual 26, 3) := by decide +kernel
theorem dL_isAhead_130 : decode cL_isAhead 130 = .ok (.ifCond .ne 14, 3) := by decide +kernel
theorem dL_isAhead_133 : decode cL_isAhead 133 = .ok (.aload_n 0, 1) := by decide +kernel
theorem dL_isAhead_134 : decode cL_isAhead 134 = .ok (.invokevirtual 97, 3) := by decide +kernel
theorem dL_isAhead_137 : decode cL_isAhead 137 = .ok (.ifCond .lt 7, 3) := by decide +kernel
theorem dL_isAhead_140 : decode cL_isAhead 140 = .ok (.iconst 1, 1) := by decide +kernel
theorem dL_isAhead_141 : decode cL_isAhead 141 = .ok (.goto 4, 3) := by decide +kernel
theorem dL_isAhead_144 : decode cL_isAhead 144 = .ok (.iconst 0, 1) := by decide +kernel
theorem dL_isAhead_145 : decode cL_isAhead 145 = .ok (.istore 6, 2) := by decide +kernel
theorem dL_isAhead_147 : decode cL_isAhead 147 = .ok (.goto 53, 3) := by decide +kernel
theorem dL_isAhead_150 : decode cL_isAhead 150 = .ok (.iload 6, 2) := by decide +kernel
theorem dL_isAhead_152 : decode cL_isAhead 152 = .ok (.ifCond .eq 48, 3) := by decide +kernel
theorem dL_isAhead_155 : decode cL_isAhead 155 = .ok (.aload_n 0, 1) := by decide +kernel
theorem dL_isAhead_156 : decode cL_isAhead 156 = .ok (.iload_n 2, 1) := by decide +kernel
theorem dL_isAhead_157 : decode cL_isAhead 157 = .ok (.iconst 4, 1) := by decide +kernel
theorem dL_isAhead_158 : decode cL_isAhead 158 = .ok (.invokevirtual 37, 3) := by decide +kernel
theorem dL_isAhead_161 : decode cL_isAhead 161 = .ok (.ifCond .ne 39, 3) := by decide +kernel
theorem dL_isAhead_164 : decode cL_isAhead 164 = .ok (.aload_n 0, 1) := by decide +kernel
theorem dL_isAhead_165 : decode cL_isAhead 165 = .ok (.iload_n 2, 1) := by decide +kernel
theorem dL_isAhead_166 : decode cL_isAhead 166 = .ok (.bipush 100, 2) := by decide +kernel
theorem dL_isAhead_168 : decode cL_isAhead 168 = .ok (.invokevirtual 67, 3) := by decide +kernel
theorem dL_isAhead_171 : decode cL_isAhead 171 = .ok (.iconst 2, 1) := by decide +kernel
theorem dL_isAhead_172 : decode cL_isAhead 172 = .ok (.if_icmp .lt 25, 3) := by decide +kernel
theorem dL_isAhead_175 : decode cL_isAhead 175 = .ok (.aload_n 0, 1) := by decide +kernel
theorem dL_isAhead_176 : decode cL_isAhead 176 = .ok (.bipush 9, 2) := by decide +kernel
theorem dL_isAhead_178 : decode cL_isAhead 178 = .ok (.invokevirtual 13, 3) := by decide +kernel
theorem dL_isAhead_181 : decode cL_isAhead 181 = .ok (.iload 5, 2) := by decide +kernel
theorem dL_isAhead_183 : decode cL_isAhead 183 = .ok (.if_icmp .ne 14, 3) := by decide +kernel
theorem dL_isAhead_186 : decode cL_isAhead 186 = .ok (.aload_n 0, 1) := by decide +kernel
theorem dL_isAhead_187 : decode cL_isAhead 187 = .ok (.invokevirtual 97, 3) := by decide +kernel
theorem dL_isAhead_190 : decode cL_isAhead 190 = .ok (.ifCond .lt 7, 3) := by decide +kernel
theorem dL_isAhead_193 : decode cL_isAhead 193 = .ok (.iconst 1, 1) := by decide +kernel
theorem dL_isAhead_194 : decode cL_isAhead 194 = .ok (.goto 4, 3) := by decide +kernel
theorem dL_isAhead_197 : decode cL_isAhead 197 = .ok (.iconst 0, 1) := by decide +kernel
theorem dL_isAhead_198 : decode cL_isAhead 198 = .ok (.istore 6, 2) := by decide +kernel
theorem dL_isAhead_200 : decode cL_isAhead 200 = .ok (.iconst 0, 1) := by decide +kernel
theorem dL_isAhead_201 : decode cL_isAhead 201 = .ok (.istore 7, 2) := by decide +kernel
theorem dL_isAhead_203 : decode cL_isAhead 203 = .ok (.aload_n 0, 1) := by decide +kernel
theorem dL_isAhead_204 : decode cL_isAhead 204 = .ok (.iconst 4, 1) := by decide +kernel
theorem dL_isAhead_205 : decode cL_isAhead 205 = .ok (.invokevirtual 13, 3) := by decide +kernel
theorem dL_isAhead_208 : decode cL_isAhead 208 = .ok (.istore 8, 2) := by decide +kernel
theorem dL_isAhead_210 : decode cL_isAhead 210 = .ok (.aload_n 0, 1) := by decide +kernel
theorem dL_isAhead_211 : decode cL_isAhead 211 = .ok (.iconst 0, 1) := by decide +kernel
theorem dL_isAhead_212 : decode cL_isAhead 212 = .ok (.invokevirtual 13, 3) := by decide +kernel
theorem dL_isAhead_215 : decode cL_isAhead 215 = .ok (.istore 9, 2) := by decide +kernel
theorem dL_isAhead_217 : decode cL_isAhead 217 = .ok (.aload_n 0, 1) := by decide +kernel
theorem dL_isAhead_218 : decode cL_isAhead 218 = .ok (.bipush 6, 2) := by decide +kernel
theorem dL_isAhead_220 : decode cL_isAhead 220 = .ok (.invokevirtual 13, 3) := by decide +kernel
theorem dL_isAhead_223 : decode cL_isAhead 223 = .ok (.istore 10, 2) := by decide +kernel
theorem dL_isAhead_225 : decode cL_isAhead 225 = .ok (.aload_n 0, 1) := by decide +kernel
theorem dL_isAhead_226 : decode cL_isAhead 226 = .ok (.bipush 7, 2) := by decide +kernel
theorem dL_isAhead_228 : decode cL_isAhead 228 = .ok (.invokevirtual 13, 3) := by decide +kernel
theorem dL_isAhead_231 : decode cL_isAhead 231 = .ok (.istore 11, 2) := by decide +kernel
theorem dL_isAhead_233 : decode cL_isAhead 233 = .ok (.aload_n 0, 1) := by decide +kernel
theorem dL_isAhead_234 : decode cL_isAhead 234 = .ok (.invokevirtual 100, 3) := by decide +kernel
theorem dL_isAhead_237 : decode cL_isAhead 237 = .ok (.istore 12, 2) := by decide +kernel
theorem dL_isAhead_239 : decode cL_isAhead 239 = .ok (.iconst 0, 1) := by decide +kernel
theorem dL_isAhead_240 : decode cL_isAhead 240 = .ok (.istore 13, 2) := by decide +kernel
theorem dL_isAhead_242 : decode cL_isAhead 242 = .ok (.iload 13, 2) := by decide +kernel
theorem dL_isAhead_244 : decode cL_isAhead 244 = .ok (.bipush 8, 2) := by decide +kernel
theorem dL_isAhead_246 : decode cL_isAhead 246 = .ok (.if_icmp .ge 48, 3) := by decide +kernel
theorem dL_isAhead_249 : decode cL_isAhead 249 = .ok (.iload 7, 2) := by decide +kernel
theorem dL_isAhead_251 : decode cL_isAhead 251 = .ok (.aload_n 0, 1) := by decide +kernel
theorem dL_isAhead_252 : decode cL_isAhead 252 = .ok (.iload 13, 2) := by decide +kernel
theorem dL_isAhead_254 : decode cL_isAhead 254 = .ok (.iconst 0, 1) := by decide +kernel
theorem dL_isAhead_255 : decode cL_isAhead 255 = .ok (.invokevirtual 19, 3) := by decide +kernel
theorem dL_isAhead_258 : decode cL_isAhead 258 = .ok (.aload_n 0, 1) := by decide +kernel
theorem dL_isAhead_259 : decode cL_isAhead 259 = .ok (.iload 13, 2) := by decide +kernel
theorem dL_isAhead_261 : decode cL_isAhead 261 = .ok (.iconst 2, 1) := by decide +kernel
theorem dL_isAhead_262 : decode cL_isAhead 262 = .ok (.invokevirtual 19, 3) := by decide +kernel
theorem dL_isAhead_265 : decode cL_isAhead 265 = .ok (.if_icmp .ge 13, 3) := by decide +kernel
theorem dL_isAhead_268 : decode cL_isAhead 268 = .ok (.aload_n 0, 1) := by decide +kernel
theorem dL_isAhead_269 : decode cL_isAhead 269 = .ok (.iload 13, 2) := by decide +kernel
theorem dL_isAhead_271 : decode cL_isAhead 271 = .ok (.iconst 0, 1) := by decide +kernel
theorem dL_isAhead_272 : decode cL_isAhead 272 = .ok (.invokevirtual 19, 3) := by decide +kernel
theorem dL_isAhead_275 : decode cL_isAhead 275 = .ok (.goto 10, 3) := by decide +kernel
theorem dL_isAhead_278 : decode cL_isAhead 278 = .ok (.aload_n 0, 1) := by decide +kernel
theorem dL_isAhead_279 : decode cL_isAhead 279 = .ok (.iload 13, 2) := by decide +kernel
theorem dL_isAhead_281 : decode cL_isAhead 281 = .ok (.iconst 2, 1) := by decide +kernel
theorem dL_isAhead_282 : decode cL_isAhead 282 = .ok (.invokevirtual 19, 3) := by decide +kernel
theorem dL_isAhead_285 : decode cL_isAhead 285 = .ok (.iadd, 1) := by decide +kernel
theorem dL_isAhead_286 : decode cL_isAhead 286 = .ok (.istore 7, 2) := by decide +kernel
theorem dL_isAhead_288 : decode cL_isAhead 288 = .ok (.iinc 13 1, 3) := by decide +kernel
theorem dL_isAhead_291 : decode cL_isAhead 291 = .ok (.goto (-49), 3) := by decide +kernel
theorem dL_isAhead_294 : decode cL_isAhead 294 = .ok (.iload 6, 2) := by decide +kernel
theorem dL_isAhead_296 : decode cL_isAhead 296 = .ok (.ifCond .eq 108, 3) := by decide +kernel
theorem dL_isAhead_299 : decode cL_isAhead 299 = .ok (.aload_n 0, 1) := by decide +kernel
theorem dL_isAhead_300 : decode cL_isAhead 300 = .ok (.iconst 1, 1) := by decide +kernel
theorem dL_isAhead_301 : decode cL_isAhead 301 = .ok (.invokevirtual 43, 3) := by decide +kernel
theorem dL_isAhead_304 : decode cL_isAhead 304 = .ok (.istore 13, 2) := by decide +kernel
theorem dL_isAhead_306 : decode cL_isAhead 306 = .ok (.aload_n 0, 1) := by decide +kernel
theorem dL_isAhead_307 : decode cL_isAhead 307 = .ok (.iconst 0, 1) := by decide +kernel
theorem dL_isAhead_308 : decode cL_isAhead 308 = .ok (.invokevirtual 13, 3) := by decide +kernel
theorem dL_isAhead_311 : decode cL_isAhead 311 = .ok (.iload 9, 2) := by decide +kernel
theorem dL_isAhead_313 : decode cL_isAhead 313 = .ok (.iconst 1, 1) := by decide +kernel
theorem dL_isAhead_314 : decode cL_isAhead 314 = .ok (.iadd, 1) := by decide +kernel
theorem dL_isAhead_315 : decode cL_isAhead 315 = .ok (.if_icmp .ne 86, 3) := by decide +kernel
theorem dL_isAhead_318 : decode cL_isAhead 318 = .ok (.aload_n 0, 1) := by decide +kernel
theorem dL_isAhead_319 : decode cL_isAhead 319 = .ok (.iconst 4, 1) := by decide +kernel
theorem dL_isAhead_320 : decode cL_isAhead 320 = .ok (.invokevirtual 13, 3) := by decide +kernel
theorem dL_isAhead_323 : decode cL_isAhead 323 = .ok (.iload 8, 2) := by decide +kernel
theorem dL_isAhead_325 : decode cL_isAhead 325 = .ok (.iload 7, 2) := by decide +kernel
theorem dL_isAhead_327 : decode cL_isAhead 327 = .ok (.iadd, 1) := by decide +kernel
theorem dL_isAhead_328 : decode cL_isAhead 328 = .ok (.if_icmp .ne 73, 3) := by decide +kernel
theorem dL_isAhead_331 : decode cL_isAhead 331 = .ok (.aload_n 0, 1) := by decide +kernel
theorem dL_isAhead_332 : decode cL_isAhead 332 = .ok (.bipush 7, 2) := by decide +kernel
theorem dL_isAhead_334 : decode cL_isAhead 334 = .ok (.invokevirtual 13, 3) := by decide +kernel
theorem dL_isAhead_337 : decode cL_isAhead 337 = .ok (.iload 11, 2) := by decide +kernel
theorem dL_isAhead_339 : decode cL_isAhead 339 = .ok (.iload 13, 2) := by decide +kernel
theorem dL_isAhead_341 : decode cL_isAhead 341 = .ok (.iadd, 1) := by decide +kernel
theorem dL_isAhead_342 : decode cL_isAhead 342 = .ok (.if_icmp .ne 59, 3) := by decide +kernel
theorem dL_isAhead_345 : decode cL_isAhead 345 = .ok (.aload_n 0, 1) := by decide +kernel
theorem dL_isAhead_346 : decode cL_isAhead 346 = .ok (.bipush 6, 2) := by decide +kernel
theorem dL_isAhead_348 : decode cL_isAhead 348 = .ok (.invokevirtual 13, 3) := by decide +kernel
theorem dL_isAhead_351 : decode cL_isAhead 351 = .ok (.iload 10, 2) := by decide +kernel
theorem dL_isAhead_353 : decode cL_isAhead 353 = .ok (.iload 13, 2) := by decide +kernel
theorem dL_isAhead_355 : decode cL_isAhead 355 = .ok (.isub, 1) := by decide +kernel
theorem dL_isAhead_356 : decode cL_isAhead 356 = .ok (.if_icmp .ne 45, 3) := by decide +kernel
theorem dL_isAhead_359 : decode cL_isAhead 359 = .ok (.iload 13, 2) := by decide +kernel
theorem dL_isAhead_361 : decode cL_isAhead 361 = .ok (.iconst 1, 1) := by decide +kernel
theorem dL_isAhead_362 : decode cL_isAhead 362 = .ok (.if_icmp .gt 39, 3) := by decide +kernel
theorem dL_isAhead_365 : decode cL_isAhead 365 = .ok (.iload 13, 2) := by decide +kernel
theorem dL_isAhead_367 : decode cL_isAhead 367 = .ok (.iconst 1, 1) := by decide +kernel
theorem dL_isAhead_368 : decode cL_isAhead 368 = .ok (.if_icmp .ne 7, 3) := by decide +kernel
theorem dL_isAhead_371 : decode cL_isAhead 371 = .ok (.iconst 1, 1) := by decide +kernel
theorem dL_isAhead_372 : decode cL_isAhead 372 = .ok (.goto 4, 3) := by decide +kernel
theorem dL_isAhead_375 : decode cL_isAhead 375 = .ok (.iconst 0, 1) := by decide +kernel
theorem dL_isAhead_376 : decode cL_isAhead 376 = .ok (.iload 12, 2) := by decide +kernel
theorem dL_isAhead_378 : decode cL_isAhead 378 = .ok (.iconst 1, 1) := by decide +kernel
theorem dL_isAhead_379 : decode cL_isAhead 379 = .ok (.if_icmp .ne 7, 3) := by decide +kernel
theorem dL_isAhead_382 : decode cL_isAhead 382 = .ok (.iconst 1, 1) := by decide +kernel
theorem dL_isAhead_383 : decode cL_isAhead 383 = .ok (.goto 4, 3) := by decide +kernel
theorem dL_isAhead_386 : decode cL_isAhead 386 = .ok (.iconst 0, 1) := by decide +kernel
theorem dL_isAhead_387 : decode cL_isAhead 387 = .ok (.if_icmp .ne 14, 3) := by decide +kernel
theorem dL_isAhead_390 : decode cL_isAhead 390 = .ok (.aload_n 0, 1) := by decide +kernel
theorem dL_isAhead_391 : decode cL_isAhead 391 = .ok (.invokevirtual 97, 3) := by decide +kernel
theorem dL_isAhead_394 : decode cL_isAhead 394 = .ok (.ifCond .lt 7, 3) := by decide +kernel
theorem dL_isAhead_397 : decode cL_isAhead 397 = .ok (.iconst 1, 1) := by decide +kernel
theorem dL_isAhead_398 : decode cL_isAhead 398 = .ok (.goto 4, 3) := by decide +kernel
theorem dL_isAhead_401 : decode cL_isAhead 401 = .ok (.iconst 0, 1) := by decide +kernel
theorem dL_isAhead_402 : decode cL_isAhead 402 = .ok (.istore 6, 2) := by decide +kernel
theorem dL_isAhead_404 : decode cL_isAhead 404 = .ok (.aload_n 0, 1) := by decide +kernel
theorem dL_isAhead_405 : decode cL_isAhead 405 = .ok (.iload_n 1, 1) := by decide +kernel
theorem dL_isAhead_406 : decode cL_isAhead 406 = .ok (.bipush 9, 2) := by decide +kernel
theorem dL_isAhead_408 : decode cL_isAhead 408 = .ok (.invokevirtual 19, 3) := by decide +kernel
theorem dL_isAhead_411 : decode cL_isAhead 411 = .ok (.istore 13, 2) := by decide +kernel
theorem dL_isAhead_413 : decode cL_isAhead 413 = .ok (.iload 6, 2) := by decide +kernel
theorem dL_isAhead_415 : decode cL_isAhead 415 = .ok (.ifCond .eq 33, 3) := by decide +kernel
theorem dL_isAhead_418 : decode cL_isAhead 418 = .ok (.aload_n 0, 1) := by decide +kernel
theorem dL_isAhead_419 : decode cL_isAhead 419 = .ok (.iload_n 1, 1) := by decide +kernel
theorem dL_isAhead_420 : decode cL_isAhead 420 = .ok (.invokevirtual 61, 3) := by decide +kernel
theorem dL_isAhead_423 : decode cL_isAhead 423 = .ok (.iload 13, 2) := by decide +kernel
theorem dL_isAhead_425 : decode cL_isAhead 425 = .ok (.if_icmp .ne 23, 3) := by decide +kernel
theorem dL_isAhead_428 : decode cL_isAhead 428 = .ok (.aload_n 0, 1) := by decide +kernel
theorem dL_isAhead_429 : decode cL_isAhead 429 = .ok (.bipush 13, 2) := by decide +kernel
theorem dL_isAhead_431 : decode cL_isAhead 431 = .ok (.invokevirtual 13, 3) := by decide +kernel
theorem dL_isAhead_434 : decode cL_isAhead 434 = .ok (.ifCond .le 14, 3) := by decide +kernel
theorem dL_isAhead_437 : decode cL_isAhead 437 = .ok (.aload_n 0, 1) := by decide +kernel
theorem dL_isAhead_438 : decode cL_isAhead 438 = .ok (.invokevirtual 97, 3) := by decide +kernel
theorem dL_isAhead_441 : decode cL_isAhead 441 = .ok (.ifCond .lt 7, 3) := by decide +kernel
theorem dL_isAhead_444 : decode cL_isAhead 444 = .ok (.iconst 1, 1) := by decide +kernel
theorem dL_isAhead_445 : decode cL_isAhead 445 = .ok (.goto 4, 3) := by decide +kernel
theorem dL_isAhead_448 : decode cL_isAhead 448 = .ok (.iconst 0, 1) := by decide +kernel
theorem dL_isAhead_449 : decode cL_isAhead 449 = .ok (.istore 6, 2) := by decide +kernel
theorem dL_isAhead_451 : decode cL_isAhead 451 = .ok (.iload 6, 2) := by decide +kernel
theorem dL_isAhead_453 : decode cL_isAhead 453 = .ok (.ifCond .eq 122, 3) := by decide +kernel
theorem dL_isAhead_456 : decode cL_isAhead 456 = .ok (.aload_n 0, 1) := by decide +kernel
theorem dL_isAhead_457 : decode cL_isAhead 457 = .ok (.iconst 2, 1) := by decide +kernel
theorem dL_isAhead_458 : decode cL_isAhead 458 = .ok (.invokevirtual 43, 3) := by decide +kernel
theorem dL_isAhead_461 : decode cL_isAhead 461 = .ok (.ifCond .lt 15, 3) := by decide +kernel
theorem dL_isAhead_464 : decode cL_isAhead 464 = .ok (.aload_n 0, 1) := by decide +kernel
theorem dL_isAhead_465 : decode cL_isAhead 465 = .ok (.iconst 3, 1) := by decide +kernel
theorem dL_isAhead_466 : decode cL_isAhead 466 = .ok (.invokevirtual 43, 3) := by decide +kernel
theorem dL_isAhead_469 : decode cL_isAhead 469 = .ok (.ifCond .lt 7, 3) := by decide +kernel
theorem dL_isAhead_472 : decode cL_isAhead 472 = .ok (.iconst 1, 1) := by decide +kernel
theorem dL_isAhead_473 : decode cL_isAhead 473 = .ok (.goto 4, 3) := by decide +kernel
theorem dL_isAhead_476 : decode cL_isAhead 476 = .ok (.iconst 0, 1) := by decide +kernel
theorem dL_isAhead_477 : decode cL_isAhead 477 = .ok (.istore 6, 2) := by decide +kernel
theorem dL_isAhead_479 : decode cL_isAhead 479 = .ok (.aload_n 0, 1) := by decide +kernel
theorem dL_isAhead_480 : decode cL_isAhead 480 = .ok (.bipush 9, 2) := by decide +kernel
theorem dL_isAhead_482 : decode cL_isAhead 482 = .ok (.invokevirtual 13, 3) := by decide +kernel
theorem dL_isAhead_485 : decode cL_isAhead 485 = .ok (.istore 14, 2) := by decide +kernel
theorem dL_isAhead_487 : decode cL_isAhead 487 = .ok (.aload_n 0, 1) := by decide +kernel
theorem dL_isAhead_488 : decode cL_isAhead 488 = .ok (.iconst 1, 1) := by decide +kernel
theorem dL_isAhead_489 : decode cL_isAhead 489 = .ok (.invokevirtual 13, 3) := by decide +kernel
theorem dL_isAhead_492 : decode cL_isAhead 492 = .ok (.istore 15, 2) := by decide +kernel
theorem dL_isAhead_494 : decode cL_isAhead 494 = .ok (.aload_n 0, 1) := by decide +kernel
theorem dL_isAhead_495 : decode cL_isAhead 495 = .ok (.bipush 6, 2) := by decide +kernel
theorem dL_isAhead_497 : decode cL_isAhead 497 = .ok (.invokevirtual 13, 3) := by decide +kernel
theorem dL_isAhead_500 : decode cL_isAhead 500 = .ok (.istore 16, 2) := by decide +kernel
theorem dL_isAhead_502 : decode cL_isAhead 502 = .ok (.iload 6, 2) := by decide +kernel
theorem dL_isAhead_504 : decode cL_isAhead 504 = .ok (.ifCond .eq 68, 3) := by decide +kernel
theorem dL_isAhead_507 : decode cL_isAhead 507 = .ok (.aload_n 0, 1) := by decide +kernel
theorem dL_isAhead_508 : decode cL_isAhead 508 = .ok (.invokevirtual 97, 3) := by decide +kernel
theorem dL_isAhead_511 : decode cL_isAhead 511 = .ok (.ifCond .lt 61, 3) := by decide +kernel
theorem dL_isAhead_514 : decode cL_isAhead 514 = .ok (.aload_n 0, 1) := by decide +kernel
theorem dL_isAhead_515 : decode cL_isAhead 515 = .ok (.invokevirtual 97, 3) := by decide +kernel
theorem dL_isAhead_518 : decode cL_isAhead 518 = .ok (.ifCond .lt 54, 3) := by decide +kernel
theorem dL_isAhead_521 : decode cL_isAhead 521 = .ok (.aload_n 0, 1) := by decide +kernel
theorem dL_isAhead_522 : decode cL_isAhead 522 = .ok (.iconst 5, 1) := by decide +kernel
theorem dL_isAhead_523 : decode cL_isAhead 523 = .ok (.invokevirtual 43, 3) := by decide +kernel
theorem dL_isAhead_526 : decode cL_isAhead 526 = .ok (.ifCond .lt 46, 3) := by decide +kernel
theorem dL_isAhead_529 : decode cL_isAhead 529 = .ok (.aload_n 0, 1) := by decide +kernel
theorem dL_isAhead_530 : decode cL_isAhead 530 = .ok (.bipush 9, 2) := by decide +kernel
theorem dL_isAhead_532 : decode cL_isAhead 532 = .ok (.invokevirtual 13, 3) := by decide +kernel
theorem dL_isAhead_535 : decode cL_isAhead 535 = .ok (.iload 14, 2) := by decide +kernel
theorem dL_isAhead_537 : decode cL_isAhead 537 = .ok (.if_icmp .ne 35, 3) := by decide +kernel
theorem dL_isAhead_540 : decode cL_isAhead 540 = .ok (.aload_n 0, 1) := by decide +kernel
theorem dL_isAhead_541 : decode cL_isAhead 541 = .ok (.iconst 1, 1) := by decide +kernel
theorem dL_isAhead_542 : decode cL_isAhead 542 = .ok (.invokevirtual 13, 3) := by decide +kernel
theorem dL_isAhead_545 : decode cL_isAhead 545 = .ok (.iload 15, 2) := by decide +kernel
theorem dL_isAhead_547 : decode cL_isAhead 547 = .ok (.if_icmp .ne 25, 3) := by decide +kernel
theorem dL_isAhead_550 : decode cL_isAhead 550 = .ok (.aload_n 0, 1) := by decide +kernel
theorem dL_isAhead_551 : decode cL_isAhead 551 = .ok (.bipush 6, 2) := by decide +kernel
theorem dL_isAhead_553 : decode cL_isAhead 553 = .ok (.invokevirtual 13, 3) := by decide +kernel
theorem dL_isAhead_556 : decode cL_isAhead 556 = .ok (.iload 16, 2) := by decide +kernel
theorem dL_isAhead_558 : decode cL_isAhead 558 = .ok (.if_icmp .ne 14, 3) := by decide +kernel
theorem dL_isAhead_561 : decode cL_isAhead 561 = .ok (.aload_n 0, 1) := by decide +kernel
theorem dL_isAhead_562 : decode cL_isAhead 562 = .ok (.invokevirtual 97, 3) := by decide +kernel
theorem dL_isAhead_565 : decode cL_isAhead 565 = .ok (.ifCond .lt 7, 3) := by decide +kernel
theorem dL_isAhead_568 : decode cL_isAhead 568 = .ok (.iconst 1, 1) := by decide +kernel
theorem dL_isAhead_569 : decode cL_isAhead 569 = .ok (.goto 4, 3) := by decide +kernel
theorem dL_isAhead_572 : decode cL_isAhead 572 = .ok (.iconst 0, 1) := by decide +kernel
theorem dL_isAhead_573 : decode cL_isAhead 573 = .ok (.istore 6, 2) := by decide +kernel
theorem dL_isAhead_575 : decode cL_isAhead 575 = .ok (.iload 6, 2) := by decide +kernel
theorem dL_isAhead_577 : decode cL_isAhead 577 = .ok (.ifCond .eq 16, 3) := by decide +kernel
theorem dL_isAhead_580 : decode cL_isAhead 580 = .ok (.aload_n 0, 1) := by decide +kernel
theorem dL_isAhead_581 : decode cL_isAhead 581 = .ok (.invokestatic 93, 3) := by decide +kernel
theorem dL_isAhead_584 : decode cL_isAhead 584 = .ok (.lload_n 3, 1) := by decide +kernel
theorem dL_isAhead_585 : decode cL_isAhead 585 = .ok (.lcmp, 1) := by decide +kernel
theorem dL_isAhead_586 : decode cL_isAhead 586 = .ok (.ifCond .ne 7, 3) := by decide +kernel
theorem dL_isAhead_589 : decode cL_isAhead 589 = .ok (.iconst 1, 1) := by decide +kernel
theorem dL_isAhead_590 : decode cL_isAhead 590 = .ok (.goto 4, 3) := by decide +kernel
theorem dL_isAhead_593 : decode cL_isAhead 593 = .ok (.iconst 0, 1) := by decide +kernel
theorem dL_isAhead_594 : decode cL_isAhead 594 = .ok (.ireturn, 1) := by decide +kernel
