set_option maxRecDepth 20000 in
theorem lc_act : GoodIn wsL_law [.code yL_act cL_act 6 (some .int)] := fun w hw => by
  obtain rfl := List.mem_singleton.mp hw
  exact ⟨List.mem_of_getElem? (i := 326) rfl, good_of_word (by decide +kernel)⟩
set_option maxRecDepth 20000 in
theorem lc_wsL_act_r1 : GoodIn wsL_law wsL_act_r1 := goodIn_r _ [327, 328, 143, 329, 330, 277, 278, 279, 2, 280, 12, 150, 157, 158, 159, 160, 161, 272, 273, 274, 162, 163, 164, 165] (by decide +kernel) (by decide +kernel)
set_option maxRecDepth 20000 in
theorem lc_wsL_act_r2 : GoodIn wsL_law wsL_act_r2 := goodIn_r _ [166, 281, 282, 283, 25, 284, 55, 62, 56, 59, 285, 286, 287, 288, 289, 290, 77, 291, 146, 147, 148, 149, 151, 152] (by decide +kernel) (by decide +kernel)
set_option maxRecDepth 20000 in
theorem lc_wsL_act_r3 : GoodIn wsL_law wsL_act_r3 := goodIn_r _ [153, 154, 155, 122, 156, 167, 83, 84, 85, 168, 72, 73, 74, 75, 76, 78, 79, 80, 81, 82, 169, 170, 171, 172] (by decide +kernel) (by decide +kernel)
set_option maxRecDepth 20000 in
theorem lc_wsL_act_r4 : GoodIn wsL_law wsL_act_r4 := goodIn_r _ [60, 71, 173, 174, 175, 11, 176, 35, 177, 41, 43, 42, 178, 179, 180, 181, 182, 183, 184, 185, 186, 331, 332, 333] (by decide +kernel) (by decide +kernel)
set_option maxRecDepth 20000 in
theorem lc_wsL_act_r5 : GoodIn wsL_law wsL_act_r5 := goodIn_r _ [334, 335, 336, 337, 338, 339, 340, 18, 341, 342, 343, 17, 344, 103, 102, 345, 346, 347, 348, 349, 124, 125, 126, 39] (by decide +kernel) (by decide +kernel)
set_option maxRecDepth 20000 in
theorem lc_wsL_act_r6 : GoodIn wsL_law wsL_act_r6 := goodIn_r _ [127, 128, 129, 130, 44, 45, 46, 47, 48, 49, 50, 131, 132, 133, 134, 135, 57, 61, 136, 137, 138, 38, 139, 93] (by decide +kernel) (by decide +kernel)
set_option maxRecDepth 20000 in
theorem lc_wsL_act_r7 : GoodIn wsL_law wsL_act_r7 := goodIn_r _ [140, 94, 95, 96, 350, 351, 352, 353, 354, 355, 356, 357, 358, 68, 69, 70, 86, 87, 88, 89, 359, 360, 361, 362] (by decide +kernel) (by decide +kernel)
set_option maxRecDepth 20000 in
theorem lc_wsL_act_r8 : GoodIn wsL_law wsL_act_r8 := goodIn_r _ [194, 363, 364, 365, 366, 367, 236, 237, 238, 67, 368, 240, 241, 242, 243, 244, 245, 246, 247, 248, 249, 250, 369, 370] (by decide +kernel) (by decide +kernel)
set_option maxRecDepth 20000 in
theorem lc_wsL_act_r9 : GoodIn wsL_law wsL_act_r9 := goodIn_r _ [371, 372, 373, 374, 375, 376, 377, 378, 379, 380, 381, 382, 383, 384, 385, 386, 387, 388, 389, 390, 391, 392, 393, 394] (by decide +kernel) (by decide +kernel)
set_option maxRecDepth 20000 in
theorem lc_wsL_act_r10 : GoodIn wsL_law wsL_act_r10 := goodIn_r _ [395, 396, 397, 398, 399, 400, 401, 402, 403, 404, 405, 406, 407, 408, 409, 410, 411, 412, 413, 207, 208, 209, 210, 414] (by decide +kernel) (by decide +kernel)
set_option maxRecDepth 20000 in
theorem lc_wsL_act_r11 : GoodIn wsL_law wsL_act_r11 := goodIn_r _ [415, 416, 417, 418, 419, 420, 421, 271, 422, 423, 424, 425, 14, 13, 123] (by decide +kernel) (by decide +kernel)
set_option maxRecDepth 20000 in
theorem lc_act_wsX60 : GoodIn wsL_law wsX60 := goodIn_r _ [442, 443, 444, 445, 446, 447, 448] (by decide +kernel) (by decide +kernel)
set_option maxRecDepth 20000 in
theorem lc_act_wsX40 : GoodIn wsL_law wsX40 := goodIn_r _ [449, 450, 451, 452, 453, 454, 455, 456, 457, 458, 459, 460] (by decide +kernel) (by decide +kernel)
set_option maxRecDepth 20000 in
theorem lc_act_wsX00 : GoodIn wsL_law wsX00 := goodIn_r _ [465, 466, 467, 468, 469, 470, 471] (by decide +kernel) (by decide +kernel)
set_option maxRecDepth 20000 in
theorem lc_act_wsX20 : GoodIn wsL_law wsX20 := goodIn_r _ [461, 462] (by decide +kernel) (by decide +kernel)
set_option maxRecDepth 20000 in
theorem lc_act_wsX30 : GoodIn wsL_law wsX30 := goodIn_r _ [475, 476, 477, 478] (by decide +kernel) (by decide +kernel)
set_option maxRecDepth 20000 in
theorem ggL_law_L_act : GoodIn wsL_law wsL_act := goodIn_ca (goodIn_ca (goodIn_ca (goodIn_ca (a := []) lc_act (goodIn_app (goodIn_app (goodIn_app (goodIn_app (goodIn_app (goodIn_app lc_wsL_act_r1 (goodIn_app lc_wsL_act_r2 (goodIn_app lc_wsL_act_r3 (goodIn_app lc_wsL_act_r4 (goodIn_app lc_wsL_act_r5 (goodIn_app lc_wsL_act_r6 (goodIn_app lc_wsL_act_r7 (goodIn_app lc_wsL_act_r8 (goodIn_app lc_wsL_act_r9 (goodIn_app lc_wsL_act_r10 lc_wsL_act_r11)))))))))) lc_act_wsX60) lc_act_wsX40) lc_act_wsX00) lc_act_wsX20) lc_act_wsX30)) (goodIn_sub (fun _ h => List.mem_append_left _ (List.mem_append_left _ (List.mem_append_right _ h))) (by decide +kernel))) (goodIn_sub (fun _ h => List.mem_append_left _ (List.mem_append_right _ h)) (by decide +kernel))) (goodIn_sub (fun _ h => List.mem_append_right _ h) (by decide +kernel))
set_option maxRecDepth 20000 in
theorem gL_law_L_act : GoodIn wsL_law (va_wsS RL 115 yL_act wsL_act) := goodIn_app (goodIn_of _ (by decide +kernel)) ggL_law_L_act
