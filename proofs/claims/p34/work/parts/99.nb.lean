set_option maxRecDepth 20000 in
theorem lc_holds : GoodIn wsL_law [.code yL_holds cL_holds 14 (some .boolean)] := fun w hw => by
  obtain rfl := List.mem_singleton.mp hw
  exact ⟨List.mem_of_getElem? (i := 144) rfl, good_of_word (by decide +kernel)⟩
set_option maxRecDepth 20000 in
theorem lc_wsL_holds_r1 : GoodIn wsL_law wsL_holds_r1 := goodIn_r _ [145, 146, 147, 148, 2, 149, 12, 150, 151, 152, 153, 154, 155, 122, 156, 157, 158, 159, 160, 161, 162, 163, 164, 165] (by decide +kernel) (by decide +kernel)
set_option maxRecDepth 20000 in
theorem lc_wsL_holds_r2 : GoodIn wsL_law wsL_holds_r2 := goodIn_r _ [166, 167, 83, 84, 25, 85, 55, 56, 168, 72, 73, 74, 75, 76, 77, 78, 79, 80, 81, 82, 169, 170, 171, 172] (by decide +kernel) (by decide +kernel)
set_option maxRecDepth 20000 in
theorem lc_wsL_holds_r3 : GoodIn wsL_law wsL_holds_r3 := goodIn_r _ [59, 60, 71, 173, 174, 175, 11, 176, 35, 177, 41, 43, 42, 178, 179, 180, 181, 182, 183, 184, 185, 186, 187, 188] (by decide +kernel) (by decide +kernel)
set_option maxRecDepth 20000 in
theorem lc_wsL_holds_r4 : GoodIn wsL_law wsL_holds_r4 := goodIn_r _ [189, 190, 191, 192, 193, 194, 195, 196, 197, 18, 198, 199, 200, 201, 202, 203, 204, 205, 206, 207, 208, 209, 210, 62] (by decide +kernel) (by decide +kernel)
set_option maxRecDepth 20000 in
theorem lc_wsL_holds_r5 : GoodIn wsL_law wsL_holds_r5 := goodIn_r _ [211, 212, 213, 214, 215, 216, 217, 218, 219, 220, 221, 222, 30, 223, 224, 225, 226, 29, 227, 114, 115, 116, 228, 132] (by decide +kernel) (by decide +kernel)
set_option maxRecDepth 20000 in
theorem lc_wsL_holds_r6 : GoodIn wsL_law wsL_holds_r6 := goodIn_r _ [133, 134, 135, 128, 129, 130, 57, 61, 229, 64, 65, 66, 230, 231, 232, 233, 234, 235, 236, 237, 238, 67, 68, 69] (by decide +kernel) (by decide +kernel)
set_option maxRecDepth 20000 in
theorem lc_wsL_holds_r7 : GoodIn wsL_law wsL_holds_r7 := goodIn_r _ [70, 86, 87, 88, 89, 239, 240, 241, 242, 243, 244, 245, 246, 247, 248, 249, 250, 251, 252, 253, 254, 26, 255, 256] (by decide +kernel) (by decide +kernel)
set_option maxRecDepth 20000 in
theorem lc_wsL_holds_r8 : GoodIn wsL_law wsL_holds_r8 := goodIn_r _ [257, 258, 259, 260, 261, 262, 263, 264, 265, 266, 267, 268, 269, 270, 271, 272, 273, 274, 275, 276, 277, 278, 279, 280] (by decide +kernel) (by decide +kernel)
set_option maxRecDepth 20000 in
theorem lc_wsL_holds_r9 : GoodIn wsL_law wsL_holds_r9 := goodIn_r _ [281, 282, 283, 284, 285, 286, 287, 288, 289, 290, 291, 292, 293, 294, 295, 296, 297, 298, 38, 299, 96, 93, 94, 95] (by decide +kernel) (by decide +kernel)
set_option maxRecDepth 20000 in
theorem lc_wsL_holds_r10 : GoodIn wsL_law wsL_holds_r10 := goodIn_r _ [300, 301, 302, 303, 304, 305, 306, 307, 308] (by decide +kernel) (by decide +kernel)
set_option maxRecDepth 20000 in
theorem lc_holds_wsX60 : GoodIn wsL_law wsX60 := goodIn_r _ [442, 443, 444, 445, 446, 447, 448] (by decide +kernel) (by decide +kernel)
set_option maxRecDepth 20000 in
theorem lc_holds_wsX40 : GoodIn wsL_law wsX40 := goodIn_r _ [449, 450, 451, 452, 453, 454, 455, 456, 457, 458, 459, 460] (by decide +kernel) (by decide +kernel)
set_option maxRecDepth 20000 in
theorem lc_holds_wsX00 : GoodIn wsL_law wsX00 := goodIn_r _ [465, 466, 467, 468, 469, 470, 471] (by decide +kernel) (by decide +kernel)
set_option maxRecDepth 20000 in
theorem lc_holds_wsX30 : GoodIn wsL_law wsX30 := goodIn_r _ [475, 476, 477, 478] (by decide +kernel) (by decide +kernel)
set_option maxRecDepth 20000 in
theorem lc_holds_wsX20 : GoodIn wsL_law wsX20 := goodIn_r _ [461, 462] (by decide +kernel) (by decide +kernel)
set_option maxRecDepth 20000 in
theorem lc_holds_wsX10 : GoodIn wsL_law wsX10 := goodIn_r _ [472, 473, 474] (by decide +kernel) (by decide +kernel)
set_option maxRecDepth 20000 in
theorem ggL_law_L_holds : GoodIn wsL_law wsL_holds := goodIn_ca (goodIn_ca (goodIn_ca (a := []) lc_holds (goodIn_app (goodIn_app (goodIn_app (goodIn_app (goodIn_app (goodIn_app (goodIn_app lc_wsL_holds_r1 (goodIn_app lc_wsL_holds_r2 (goodIn_app lc_wsL_holds_r3 (goodIn_app lc_wsL_holds_r4 (goodIn_app lc_wsL_holds_r5 (goodIn_app lc_wsL_holds_r6 (goodIn_app lc_wsL_holds_r7 (goodIn_app lc_wsL_holds_r8 (goodIn_app lc_wsL_holds_r9 lc_wsL_holds_r10))))))))) lc_holds_wsX60) lc_holds_wsX40) lc_holds_wsX00) lc_holds_wsX30) lc_holds_wsX20) lc_holds_wsX10)) (goodIn_sub (fun _ h => List.mem_append_left _ (List.mem_append_left _ (List.mem_append_right _ h))) (by decide +kernel))) (goodIn_sub (fun _ h => List.mem_append_left _ (List.mem_append_right _ h)) (by decide +kernel))
set_option maxRecDepth 20000 in
theorem gL_law_L_holds : GoodIn wsL_law (va_wsS RL 107 yL_holds wsL_holds) := goodIn_app (goodIn_of _ (by decide +kernel)) ggL_law_L_holds
