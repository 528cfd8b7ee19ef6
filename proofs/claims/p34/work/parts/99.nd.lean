set_option maxRecDepth 20000 in
theorem lc_isAhead : GoodIn wsL_law [.code yL_isAhead cL_isAhead 17 (some .boolean)] := fun w hw => by
  obtain rfl := List.mem_singleton.mp hw
  exact ⟨List.mem_of_getElem? (i := 436) rfl, good_of_word (by decide +kernel)⟩
set_option maxRecDepth 20000 in
theorem lc_wsL_isAhead_r1 : GoodIn wsL_law wsL_isAhead_r1 := goodIn_r _ [313, 314, 143, 315, 316, 317, 187, 188, 189, 2, 190, 12, 122, 150, 191, 192, 193, 194, 195, 196, 197, 18, 198, 162] (by decide +kernel) (by decide +kernel)
set_option maxRecDepth 20000 in
theorem lc_wsL_isAhead_r2 : GoodIn wsL_law wsL_isAhead_r2 := goodIn_r _ [163, 164, 165, 166, 199, 200, 201, 25, 202, 55, 203, 204, 205, 206, 59, 207, 208, 209, 210, 62, 211, 212, 213, 214] (by decide +kernel) (by decide +kernel)
set_option maxRecDepth 20000 in
theorem lc_wsL_isAhead_r3 : GoodIn wsL_law wsL_isAhead_r3 := goodIn_r _ [215, 216, 217, 218, 146, 147, 148, 149, 151, 152, 153, 154, 155, 156, 157, 158, 159, 160, 161, 167, 83, 84, 85, 56] (by decide +kernel) (by decide +kernel)
set_option maxRecDepth 20000 in
theorem lc_wsL_isAhead_r4 : GoodIn wsL_law wsL_isAhead_r4 := goodIn_r _ [168, 72, 73, 74, 75, 76, 77, 78, 79, 80, 81, 82, 169, 170, 171, 172, 60, 71, 173, 174, 175, 11, 176, 35] (by decide +kernel) (by decide +kernel)
set_option maxRecDepth 20000 in
theorem lc_wsL_isAhead_r5 : GoodIn wsL_law wsL_isAhead_r5 := goodIn_r _ [177, 41, 43, 42, 178, 179, 180, 181, 182, 183, 184, 185, 186, 292, 293, 294, 295, 296, 297, 298, 38, 299, 96, 93] (by decide +kernel) (by decide +kernel)
set_option maxRecDepth 20000 in
theorem lc_wsL_isAhead_r6 : GoodIn wsL_law wsL_isAhead_r6 := goodIn_r _ [94, 95, 265, 266, 267, 268, 269, 270, 271, 272, 273, 274, 275, 244, 245, 246, 247, 248, 249, 250, 276, 262, 263, 264] (by decide +kernel) (by decide +kernel)
set_option maxRecDepth 20000 in
theorem lc_wsL_isAhead_r7 : GoodIn wsL_law wsL_isAhead_r7 := goodIn_r _ [61, 243, 318, 319, 320, 321, 322, 323, 251, 252, 253, 254, 26, 255, 132, 133, 134, 135, 128, 129, 130, 57, 256, 68] (by decide +kernel) (by decide +kernel)
set_option maxRecDepth 20000 in
theorem lc_wsL_isAhead_r8 : GoodIn wsL_law wsL_isAhead_r8 := goodIn_r _ [69, 70, 86, 87, 88, 89, 257, 258, 259, 260, 261, 373, 374, 375, 376, 335, 336, 337, 338, 339, 340, 281, 282, 283] (by decide +kernel) (by decide +kernel)
set_option maxRecDepth 20000 in
theorem lc_wsL_isAhead_r9 : GoodIn wsL_law wsL_isAhead_r9 := goodIn_r _ [284, 285, 286, 287, 288, 289, 290, 291, 341, 342, 343, 17, 344, 103, 102, 345, 346, 347, 348, 349, 124, 125, 126, 39] (by decide +kernel) (by decide +kernel)
set_option maxRecDepth 20000 in
theorem lc_wsL_isAhead_r10 : GoodIn wsL_law wsL_isAhead_r10 := goodIn_r _ [127, 44, 45, 46, 47, 48, 49, 50, 131, 136, 137, 138, 139, 140, 350, 351, 352, 353, 354, 355, 356, 357, 358, 426] (by decide +kernel) (by decide +kernel)
set_option maxRecDepth 20000 in
theorem lc_wsL_isAhead_r11 : GoodIn wsL_law wsL_isAhead_r11 := goodIn_r _ [427, 428, 429, 430, 431, 432, 433, 410, 411, 412, 413, 277, 278, 279, 280, 414, 415, 416, 417, 437, 438, 439, 440, 30] (by decide +kernel) (by decide +kernel)
set_option maxRecDepth 20000 in
theorem lc_wsL_isAhead_r12 : GoodIn wsL_law wsL_isAhead_r12 := goodIn_r _ [441, 224, 225, 226, 29, 227, 114, 115, 116, 228, 229, 64, 65, 66, 230, 231, 232, 233, 234, 235, 236, 237, 238, 67] (by decide +kernel) (by decide +kernel)
set_option maxRecDepth 20000 in
theorem lc_wsL_isAhead_r13 : GoodIn wsL_law wsL_isAhead_r13 := goodIn_r _ [239, 240, 241, 242, 359, 360, 361, 362, 363, 364, 365, 366, 367, 368, 389, 390, 391, 392, 393, 394, 395, 396, 397, 398] (by decide +kernel) (by decide +kernel)
set_option maxRecDepth 20000 in
theorem lc_wsL_isAhead_r14 : GoodIn wsL_law wsL_isAhead_r14 := goodIn_r _ [399, 400, 401, 402, 403, 404, 405, 406, 407, 408, 409] (by decide +kernel) (by decide +kernel)
set_option maxRecDepth 20000 in
theorem lc_isAhead_wsX60 : GoodIn wsL_law wsX60 := goodIn_r _ [442, 443, 444, 445, 446, 447, 448] (by decide +kernel) (by decide +kernel)
set_option maxRecDepth 20000 in
theorem lc_isAhead_wsX40 : GoodIn wsL_law wsX40 := goodIn_r _ [449, 450, 451, 452, 453, 454, 455, 456, 457, 458, 459, 460] (by decide +kernel) (by decide +kernel)
set_option maxRecDepth 20000 in
theorem lc_isAhead_wsX30 : GoodIn wsL_law wsX30 := goodIn_r _ [475, 476, 477, 478] (by decide +kernel) (by decide +kernel)
set_option maxRecDepth 20000 in
theorem lc_isAhead_wsX20 : GoodIn wsL_law wsX20 := goodIn_r _ [461, 462] (by decide +kernel) (by decide +kernel)
set_option maxRecDepth 20000 in
theorem lc_isAhead_wsX00 : GoodIn wsL_law wsX00 := goodIn_r _ [465, 466, 467, 468, 469, 470, 471] (by decide +kernel) (by decide +kernel)
set_option maxRecDepth 20000 in
theorem lc_isAhead_wsX10 : GoodIn wsL_law wsX10 := goodIn_r _ [472, 473, 474] (by decide +kernel) (by decide +kernel)
set_option maxRecDepth 20000 in
theorem ggL_law_L_isAhead : GoodIn wsL_law wsL_isAhead := goodIn_ca (goodIn_ca (goodIn_ca (goodIn_ca (a := []) lc_isAhead (goodIn_app (goodIn_app (goodIn_app (goodIn_app (goodIn_app (goodIn_app (goodIn_app lc_wsL_isAhead_r1 (goodIn_app lc_wsL_isAhead_r2 (goodIn_app lc_wsL_isAhead_r3 (goodIn_app lc_wsL_isAhead_r4 (goodIn_app lc_wsL_isAhead_r5 (goodIn_app lc_wsL_isAhead_r6 (goodIn_app lc_wsL_isAhead_r7 (goodIn_app lc_wsL_isAhead_r8 (goodIn_app lc_wsL_isAhead_r9 (goodIn_app lc_wsL_isAhead_r10 (goodIn_app lc_wsL_isAhead_r11 (goodIn_app lc_wsL_isAhead_r12 (goodIn_app lc_wsL_isAhead_r13 lc_wsL_isAhead_r14))))))))))))) lc_isAhead_wsX60) lc_isAhead_wsX40) lc_isAhead_wsX30) lc_isAhead_wsX20) lc_isAhead_wsX00) lc_isAhead_wsX10)) (goodIn_sub (fun _ h => List.mem_append_left _ (List.mem_append_right _ h)) (by decide +kernel))) (goodIn_sub (fun _ h => List.mem_append_left _ (List.mem_append_left _ (List.mem_append_right _ h))) (by decide +kernel))) (goodIn_sub (fun _ h => List.mem_append_right _ h) (by decide +kernel))
set_option maxRecDepth 20000 in
theorem gL_law_L_isAhead : GoodIn wsL_law (va_wsS RL 119 yL_isAhead wsL_isAhead) := goodIn_app (goodIn_of _ (by decide +kernel)) ggL_law_L_isAhead
