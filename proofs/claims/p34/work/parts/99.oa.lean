/-! the law's own words are among the tables' -/
theorem mem_r {big : List Cond} (ws : List Cond) (ps : List Nat) (hp : ws = ps.filterMap (fun i => big[i]?)) : ∀ w ∈ ws, w ∈ big := by
  intro w hw
  rw [hp] at hw
  obtain ⟨i, -, hi⟩ := List.mem_filterMap.mp hw
  exact List.mem_of_getElem? hi
theorem mem_ap {a b c : List Cond} (h1 : ∀ w ∈ a, w ∈ c) (h2 : ∀ w ∈ b, w ∈ c) : ∀ w ∈ a ++ b, w ∈ c := fun w h => (List.mem_append.mp h).elim (h1 w) (h2 w)
set_option maxRecDepth 20000 in
theorem tb_wsL_law0_r1 : ∀ w ∈ wsL_law0_r1, w ∈ lw_tbl := by
  exact mem_r _ [26, 27, 10, 28, 29, 30, 31, 32, 33, 34, 35, 11, 229, 230, 231, 177, 178, 16, 232, 194, 195, 17, 233, 207] (by decide +kernel)
set_option maxRecDepth 20000 in
theorem tb_wsL_law0_r2 : ∀ w ∈ wsL_law0_r2, w ∈ lw_tbl := by
  exact mem_r _ [41, 12, 234, 209, 210, 18, 235, 37, 38, 39, 40, 128, 108, 109, 15, 130, 106, 132, 134, 136, 138, 140, 142, 144] (by decide +kernel)
set_option maxRecDepth 20000 in
theorem tb_wsL_law0_r3 : ∀ w ∈ wsL_law0_r3, w ∈ lw_tbl := by
  exact mem_r _ [146, 148, 150, 42, 43, 44, 45, 71, 74, 77, 107, 79, 82, 85, 87, 46, 47, 13, 48, 49, 50, 51, 52, 53] (by decide +kernel)
set_option maxRecDepth 20000 in
theorem tb_wsL_law0_r4 : ∀ w ∈ wsL_law0_r4, w ∈ lw_tbl := by
  exact mem_r _ [54, 55, 56, 61, 62, 14, 63, 64, 65, 66, 57, 58, 59, 60, 67, 69, 0, 70, 111, 112, 113, 114, 115, 116] (by decide +kernel)
set_option maxRecDepth 20000 in
theorem tb_wsL_law0_r5 : ∀ w ∈ wsL_law0_r5, w ∈ lw_tbl := by
  exact mem_r _ [117, 179, 180, 181, 182, 183, 186, 187, 197, 198, 199, 200, 201, 208, 212, 213, 214, 215, 217, 218, 220, 216, 251, 252] (by decide +kernel)
set_option maxRecDepth 20000 in
theorem tb_wsL_law0_r6 : ∀ w ∈ wsL_law0_r6, w ∈ lw_tbl := by
  exact mem_r _ [253, 254, 137, 255, 256, 257, 258, 271, 265, 264, 19, 259, 260, 261, 262, 263, 266, 267, 268, 269, 270, 595, 596, 9] (by decide +kernel)
set_option maxRecDepth 20000 in
theorem tb_wsL_law0_r7_0 : ∀ w ∈ ([Cond.code yL_holds cL_holds 14 (some .boolean)] : List Cond), w ∈ lw_tbl := fun w hw => by
  obtain rfl := List.mem_singleton.mp hw
  exact List.mem_of_getElem? (i := 597) rfl
set_option maxRecDepth 20000 in
theorem tb_wsL_law0_r7_1 : ∀ w ∈ ([Cond.constantDouble RL 87 (4651998512748167168), Cond.methodLink RL 19 yX6_balloon, Cond.instanceMethod yX6_balloon, Cond.selects RX6 yX6_balloon yX6_balloon, Cond.code yX6_balloon cX6_balloon 4 (some .int), Cond.fieldLink RX6 62 "RibbonBalloons$State" "flock" "LRibbonBalloons$Flock;", Cond.fieldLink RX6 65 "RibbonBalloons$Flock" "gas" "[I", Cond.fieldLink RX6 72 "RibbonBalloons$Flock" "bags" "[I", Cond.fieldLink RX6 79 "RibbonBalloons$Flock" "leaks" "[I", Cond.fieldLink RX6 69 "RibbonBalloons$Flock" "heights" "[I", Cond.fieldLink RX6 99 "RibbonBalloons$State" "drifts" "[I", Cond.fieldLink RX6 102 "RibbonBalloons$State" "tunedAt" "[I", Cond.methodLink RX6 51 yX6_checkBalloon, Cond.static yX6_checkBalloon, Cond.code yX6_checkBalloon cX6_checkBalloon 1 none, Cond.classLink RX6 195 "java/lang/IndexOutOfBoundsException", Cond.initialized "java/lang/IndexOutOfBoundsException", Cond.methodLink RX6 55 yX6_checkRange, Cond.static yX6_checkRange, Cond.code yX6_checkRange cX6_checkRange 3 none, Cond.classLink RX6 138 "java/lang/IllegalArgumentException", Cond.initialized "java/lang/IllegalArgumentException", Cond.methodLink RX6 170 yX0_lift] : List Cond), w ∈ lw_tbl := by
  exact mem_r _ [630, 405, 406, 407, 408, 129, 72, 75, 78, 90, 133, 135, 409, 410, 411, 412, 23, 353, 354, 355, 356, 24, 428] (by decide +kernel)
theorem tb_wsL_law0_r7 : ∀ w ∈ wsL_law0_r7, w ∈ lw_tbl := by
  exact (mem_ap tb_wsL_law0_r7_0 tb_wsL_law0_r7_1)
set_option maxRecDepth 20000 in
theorem tb_wsL_law0_r8 : ∀ w ∈ wsL_law0_r8, w ∈ lw_tbl := by
  exact mem_r _ [429, 430, 431, 432, 433, 434, 435, 436, 437, 88, 438, 439, 440, 441, 442, 443, 444, 445, 446, 349, 350, 351, 352, 139] (by decide +kernel)
set_option maxRecDepth 20000 in
theorem tb_wsL_law0_r9 : ∀ w ∈ wsL_law0_r9, w ∈ lw_tbl := by
  exact mem_r _ [141, 143, 145, 147, 131, 118, 188, 372, 373, 374, 375, 376, 377, 378, 379, 380, 381, 382, 383, 384, 385, 386, 387, 388] (by decide +kernel)
set_option maxRecDepth 20000 in
theorem tb_wsL_law0_r10 : ∀ w ∈ wsL_law0_r10, w ∈ lw_tbl := by
  exact mem_r _ [389, 390, 391, 598, 599, 600, 601, 219, 602, 603, 604, 605, 606, 607, 608, 610, 8, 611, 89, 612, 530, 531, 532, 613] (by decide +kernel)
set_option maxRecDepth 20000 in
theorem tb_wsL_law0_r11 : ∀ w ∈ wsL_law0_r11, w ∈ lw_tbl := by
  exact mem_r _ [534, 535, 536, 476, 465, 466, 467, 468, 470, 2, 471, 614, 615, 616, 617, 618, 619, 620, 621, 622, 623, 624, 473, 474] (by decide +kernel)
set_option maxRecDepth 20000 in
theorem tb_wsL_law0_r12 : ∀ w ∈ wsL_law0_r12, w ∈ lw_tbl := by
  exact mem_r _ [475, 456, 457, 458, 459, 81, 84, 86, 460, 461, 462, 464, 472, 484, 485, 486, 487, 488, 489, 490, 491, 492, 494, 3] (by decide +kernel)
set_option maxRecDepth 20000 in
theorem tb_wsL_law0_r13 : ∀ w ∈ wsL_law0_r13, w ∈ lw_tbl := by
  exact mem_r _ [495, 496, 497, 498, 447, 448, 449, 450, 452, 453, 454, 455, 625, 626, 627, 628, 629, 631, 632, 633, 634, 392, 393, 394] (by decide +kernel)
set_option maxRecDepth 20000 in
theorem tb_wsL_law0_r14_0 : ∀ w ∈ ([Cond.constant RL 7 (1812433253), Cond.methodLink RL 93 yL_looks, Cond.static yL_looks] : List Cond), w ∈ lw_tbl := by
  exact mem_r _ [395, 400, 401] (by decide +kernel)
set_option maxRecDepth 20000 in
theorem tb_wsL_law0_r14_1 : ∀ w ∈ ([Cond.code yL_looks cL_looks 4 (some .long)] : List Cond), w ∈ lw_tbl := fun w hw => by
  obtain rfl := List.mem_singleton.mp hw
  exact List.mem_of_getElem? (i := 402) rfl
set_option maxRecDepth 20000 in
theorem tb_wsL_law0_r14_2 : ∀ w ∈ ([Cond.constantLong RL 9 (127), Cond.constantLong RL 11 (31), Cond.methodLink RL 29 yX6_stopped, Cond.instanceMethod yX6_stopped, Cond.selects RX6 yX6_stopped yX6_stopped, Cond.code yX6_stopped cX6_stopped 2 (some .int), Cond.fieldLink RX6 143 "RibbonBalloons$State" "stopPart" "I", Cond.fieldLink RX6 146 "RibbonBalloons$State" "stopWhy" "I", Cond.methodLink RL 115 yL_act, Cond.static yL_act] : List Cond), w ∈ lw_tbl := by
  exact mem_r _ [403, 404, 477, 478, 479, 480, 149, 151, 481, 482] (by decide +kernel)
set_option maxRecDepth 20000 in
theorem tb_wsL_law0_r14_3 : ∀ w ∈ ([Cond.code yL_act cL_act 6 (some .int)] : List Cond), w ∈ lw_tbl := fun w hw => by
  obtain rfl := List.mem_singleton.mp hw
  exact List.mem_of_getElem? (i := 483) rfl
set_option maxRecDepth 20000 in
theorem tb_wsL_law0_r14_4 : ∀ w ∈ ([Cond.methodLink RL 32 yL_up, Cond.static yL_up, Cond.code yL_up cL_up 2 (some .int), Cond.constant RL 8 (2147483647), Cond.methodLink RL 40 yX6_fill, Cond.instanceMethod yX6_fill, Cond.selects RX6 yX6_fill yX6_fill, Cond.code yX6_fill cX6_fill 3 (some .int), Cond.methodLink RX6 59 yX6_perform] : List Cond), w ∈ lw_tbl := by
  exact mem_r _ [396, 397, 398, 399, 499, 500, 501, 502, 503] (by decide +kernel)
theorem tb_wsL_law0_r14 : ∀ w ∈ wsL_law0_r14, w ∈ lw_tbl := by
  exact (mem_ap tb_wsL_law0_r14_0 (mem_ap tb_wsL_law0_r14_1 (mem_ap tb_wsL_law0_r14_2 (mem_ap tb_wsL_law0_r14_3 tb_wsL_law0_r14_4))))
set_option maxRecDepth 20000 in
theorem tb_wsL_law0_r15 : ∀ w ∈ wsL_law0_r15, w ∈ lw_tbl := by
  exact mem_r _ [505, 4, 506, 276, 25, 508, 509, 510, 511, 512, 514, 5, 515, 348, 516, 517, 518, 519, 73, 76, 80, 83, 520, 521] (by decide +kernel)
set_option maxRecDepth 20000 in
theorem tb_wsL_law0_r16 : ∀ w ∈ wsL_law0_r16, w ∈ lw_tbl := by
  exact mem_r _ [522, 523, 524, 525, 526, 527, 528, 529, 533, 537, 538, 539, 540, 541, 542, 543, 544, 545, 546, 547, 548, 549, 550, 551] (by decide +kernel)
set_option maxRecDepth 20000 in
theorem tb_wsL_law0_r17 : ∀ w ∈ wsL_law0_r17, w ∈ lw_tbl := by
  exact mem_r _ [552, 553, 554, 555, 556, 557, 558, 559, 560, 561, 562, 563, 564, 565, 566, 567, 568, 569, 570, 572, 6, 573, 574, 576] (by decide +kernel)
set_option maxRecDepth 20000 in
theorem tb_wsL_law0_r18 : ∀ w ∈ wsL_law0_r18, w ∈ lw_tbl := by
  exact mem_r _ [7, 577, 578, 579, 580, 581, 582, 583, 584, 585, 586, 587, 588, 589, 590, 591, 592, 593, 272, 273, 274, 275, 344, 345] (by decide +kernel)
set_option maxRecDepth 20000 in
theorem tb_wsL_law0_r19_0 : ∀ w ∈ ([Cond.selects RX2 yX2_restore yX2_restore, Cond.code yX2_restore cX2_restore 2 none, Cond.methodLink RL 119 yL_isAhead, Cond.static yL_isAhead] : List Cond), w ∈ lw_tbl := by
  exact mem_r _ [346, 347, 635, 636] (by decide +kernel)
set_option maxRecDepth 20000 in
theorem tb_wsL_law0_r19_1 : ∀ w ∈ ([Cond.code yL_isAhead cL_isAhead 17 (some .boolean)] : List Cond), w ∈ lw_tbl := fun w hw => by
  obtain rfl := List.mem_singleton.mp hw
  exact List.mem_of_getElem? (i := 637) rfl
set_option maxRecDepth 20000 in
theorem tb_wsL_law0_r19_2 : ∀ w ∈ ([Cond.methodLink RL 100 yX6_snapsIn, Cond.instanceMethod yX6_snapsIn, Cond.selects RX6 yX6_snapsIn yX6_snapsIn, Cond.code yX6_snapsIn cX6_snapsIn 1 (some .int), Cond.fieldLink RX6 253 "RibbonBalloons$Forecast" "firstSnap" "I"] : List Cond), w ∈ lw_tbl := by
  exact mem_r _ [638, 639, 640, 641, 221] (by decide +kernel)
theorem tb_wsL_law0_r19 : ∀ w ∈ wsL_law0_r19, w ∈ lw_tbl := by
  exact (mem_ap tb_wsL_law0_r19_0 (mem_ap tb_wsL_law0_r19_1 tb_wsL_law0_r19_2))
set_option maxRecDepth 20000 in
theorem tb_wsX60 : ∀ w ∈ wsX60, w ∈ lw_tbl := by
  exact mem_r _ [236, 238, 240, 242, 244, 246, 248] (by decide +kernel)
set_option maxRecDepth 20000 in
theorem tb_wsX40 : ∀ w ∈ wsX40, w ∈ lw_tbl := by
  exact mem_r _ [152, 154, 156, 158, 160, 162, 164, 166, 168, 170, 172, 174] (by decide +kernel)
set_option maxRecDepth 20000 in
theorem tb_wsX20 : ∀ w ∈ wsX20, w ∈ lw_tbl := by
  exact mem_r _ [189, 191] (by decide +kernel)
set_option maxRecDepth 20000 in
theorem tb_wsX50 : ∀ w ∈ wsX50, w ∈ lw_tbl := by
  exact mem_r _ [202, 204] (by decide +kernel)
set_option maxRecDepth 20000 in
theorem tb_wsX00 : ∀ w ∈ wsX00, w ∈ lw_tbl := by
  exact mem_r _ [91, 93, 95, 97, 99, 101, 103] (by decide +kernel)
set_option maxRecDepth 20000 in
theorem tb_wsX10 : ∀ w ∈ wsX10, w ∈ lw_tbl := by
  exact mem_r _ [222, 224, 226] (by decide +kernel)
set_option maxRecDepth 20000 in
theorem tb_wsX30 : ∀ w ∈ wsX30, w ∈ lw_tbl := by
  exact mem_r _ [119, 121, 123, 125] (by decide +kernel)
set_option maxRecDepth 20000 in
theorem tb_x0 : ∀ w ∈ (vx_atS RX6 199 "java/lang/IndexOutOfBoundsException" ["java/lang/RuntimeException", "java/lang/Exception"]).filter goodWord, w ∈ lw_tbl := by
  exact mem_r _ [20, 298, 307, 311, 314, 316, 299, 300, 32, 33, 301, 306, 312, 332, 288, 333, 290, 334, 292, 302, 304, 294, 328, 329, 331, 294, 423, 424, 425, 322, 322, 323, 324, 325, 325, 326, 327, 328, 422, 413, 415, 310, 416, 417, 418, 419, 297, 296, 420] (by decide +kernel)
set_option maxRecDepth 20000 in
theorem tb_x1 : ∀ w ∈ (vx_atS RX6 142 "java/lang/IllegalArgumentException" ["java/lang/RuntimeException", "java/lang/Exception"]).filter goodWord, w ∈ lw_tbl := by
  exact mem_r _ [20, 298, 307, 311, 314, 316, 299, 300, 32, 33, 301, 306, 312, 332, 288, 333, 290, 334, 292, 302, 304, 294, 328, 329, 331, 294, 367, 368, 369, 322, 322, 323, 324, 325, 325, 326, 327, 328, 366, 357, 359, 309, 360, 361, 362, 363, 297, 296, 364] (by decide +kernel)
set_option maxRecDepth 20000 in
theorem tb_x2 : ∀ w ∈ (vx_atS RX6 125 "java/lang/IllegalStateException" ["java/lang/RuntimeException", "java/lang/Exception"]).filter goodWord, w ∈ lw_tbl := by
  exact mem_r _ [20, 298, 307, 311, 314, 316, 299, 300, 32, 33, 301, 306, 312, 332, 288, 333, 290, 334, 292, 302, 304, 294, 328, 329, 331, 294, 319, 320, 321, 322, 322, 323, 324, 325, 325, 326, 327, 328, 318, 277, 285, 286, 287, 289, 291, 293, 297, 296, 295] (by decide +kernel)
theorem tb_law0 : ∀ w ∈ wsL_law0, w ∈ lw_tbl := by
  exact mem_ap (mem_ap (mem_ap (mem_ap (mem_ap (mem_ap (mem_ap (mem_ap (mem_ap tb_wsL_law0_r1 (mem_ap tb_wsL_law0_r2 (mem_ap tb_wsL_law0_r3 (mem_ap tb_wsL_law0_r4 (mem_ap tb_wsL_law0_r5 (mem_ap tb_wsL_law0_r6 (mem_ap tb_wsL_law0_r7 (mem_ap tb_wsL_law0_r8 (mem_ap tb_wsL_law0_r9 (mem_ap tb_wsL_law0_r10 (mem_ap tb_wsL_law0_r11 (mem_ap tb_wsL_law0_r12 (mem_ap tb_wsL_law0_r13 (mem_ap tb_wsL_law0_r14 (mem_ap tb_wsL_law0_r15 (mem_ap tb_wsL_law0_r16 (mem_ap tb_wsL_law0_r17 (mem_ap tb_wsL_law0_r18 tb_wsL_law0_r19)))))))))))))))))) tb_wsX60) tb_wsX40) tb_wsX20) tb_wsX50) tb_wsX00) tb_wsX10) tb_wsX30) (fun w h => absurd h List.not_mem_nil)
theorem tb_law : ∀ w ∈ wsL_law, w ∈ lw_tbl := by
  exact mem_ap (mem_ap (mem_ap tb_law0 tb_x0) tb_x1) tb_x2
