set_option maxRecDepth 20000 in
theorem gL_law_L_undo : GoodIn wsL_law (va_wsS RL 153 yL_undo wsL_undo) := goodIn_app (goodIn_of _ (by decide +kernel)) ggL_law_L_undo
set_option maxRecDepth 20000 in
theorem ggL_law_X7_undo : GoodIn wsL_law wsX7_undo := goodIn_r _ [693, 261, 252, 253, 254, 5, 255, 256, 262, 263, 264, 265, 126, 1010, 1011, 1012, 1013, 1014, 1015, 1016, 1017, 1018, 1019, 1020, 1021] (by decide +kernel) (by decide +kernel)
set_option maxRecDepth 20000 in
theorem gL_law_X7_undo : GoodIn wsL_law (wsV RL 155 RX7 yX7_undo wsX7_undo) := goodIn_app (goodIn_of _ (by decide +kernel)) ggL_law_X7_undo
set_option maxRecDepth 20000 in
theorem ggL_law_L_balloon : GoodIn wsL_law wsL_balloon := goodIn_ca (goodIn_ca (goodIn_r _ [696, 133, 134, 697, 698, 699, 2, 700, 16, 140, 141, 324, 344, 285, 440, 442, 441, 142, 143, 144, 145, 146, 147, 148, 149, 150, 151, 701, 87, 88, 29, 89, 59, 60, 702, 76, 77, 78, 79, 80, 81, 82, 83, 84, 85, 86, 703, 704, 705, 706, 63, 64, 75, 443, 444, 445, 15, 446, 39, 447, 45, 47, 46, 707, 368, 369, 370, 363, 364, 365, 366, 367, 1003, 1004, 1005, 1006, 1007, 1008, 1009, 1022, 1023, 1024, 1025, 1026, 1027, 1028, 1029, 1030, 1031, 1032, 1033, 1038, 1039, 1040, 1041, 1042, 1043, 1044] (by decide +kernel) (by decide +kernel)) (goodIn_sub (fun _ h => List.mem_append_left _ (List.mem_append_left _ (List.mem_append_right _ h))) (by decide +kernel))) (goodIn_sub (fun _ h => List.mem_append_left _ (List.mem_append_right _ h)) (by decide +kernel))
set_option maxRecDepth 20000 in
theorem gL_law_L_balloon : GoodIn wsL_law (va_wsS RL 156 yL_balloon wsL_balloon) := goodIn_app (goodIn_of _ (by decide +kernel)) ggL_law_L_balloon
set_option maxRecDepth 20000 in
theorem ggL_law_X7_balloon : GoodIn wsL_law wsX7_balloon := goodIn_r _ [711, 208, 209, 5, 210, 211, 212, 213, 252, 253, 254, 255, 256, 712, 713, 714, 715, 126, 237, 238, 239, 240, 221, 222, 223, 224, 233, 234, 235, 236, 225, 226, 227, 228, 128, 229, 230, 231, 232, 241, 242, 243, 244, 245, 246, 247, 248, 249, 250, 251, 452, 453, 454, 455, 390, 391, 392, 393, 382, 383, 384, 385, 386, 387, 388, 389, 1010, 1011, 1012, 1013, 1014, 1015, 1016, 1017, 1018, 1019, 1020, 1021] (by decide +kernel) (by decide +kernel)
set_option maxRecDepth 20000 in
theorem gL_law_X7_balloon : GoodIn wsL_law (wsV RL 158 RX7 yX7_balloon wsX7_balloon) := goodIn_app (goodIn_of _ (by decide +kernel)) ggL_law_X7_balloon
set_option maxRecDepth 20000 in
theorem ggL_law_L_ribbon : GoodIn wsL_law wsL_ribbon := goodIn_ca (goodIn_ca (goodIn_r _ [718, 133, 134, 719, 720, 721, 2, 722, 16, 140, 723, 724, 428, 360, 361, 362, 145, 146, 147, 148, 149, 150, 151, 725, 509, 510, 29, 511, 63, 66, 64, 512, 513, 514, 515, 75, 76, 77, 78, 79, 80, 81, 82, 83, 84, 85, 86, 87, 88, 89, 59, 60, 726, 727, 728, 729, 65, 508, 1003, 1004, 1005, 1006, 1007, 1008, 1009, 1022, 1023, 1024, 1025, 1026, 1027, 1028, 1029, 1030, 1031, 1032, 1033, 1038, 1039, 1040, 1041, 1042, 1043, 1044] (by decide +kernel) (by decide +kernel)) (goodIn_sub (fun _ h => List.mem_append_left _ (List.mem_append_left _ (List.mem_append_right _ h))) (by decide +kernel))) (goodIn_sub (fun _ h => List.mem_append_left _ (List.mem_append_right _ h)) (by decide +kernel))
set_option maxRecDepth 20000 in
theorem gL_law_L_ribbon : GoodIn wsL_law (va_wsS RL 159 yL_ribbon wsL_ribbon) := goodIn_app (goodIn_of _ (by decide +kernel)) ggL_law_L_ribbon
set_option maxRecDepth 20000 in
theorem ggL_law_X7_ribbon : GoodIn wsL_law wsX7_ribbon := goodIn_r _ [733, 375, 376, 5, 377, 211, 212, 213, 252, 253, 254, 255, 256, 734, 735, 736, 737, 126, 229, 230, 231, 232, 128, 233, 234, 235, 236, 237, 238, 239, 240, 221, 222, 223, 224, 241, 242, 243, 244, 245, 246, 247, 248, 249, 250, 251, 532, 533, 534, 535, 536, 537, 538, 539, 1010, 1011, 1012, 1013, 1014, 1015, 1016, 1017, 1018, 1019, 1020, 1021] (by decide +kernel) (by decide +kernel)
set_option maxRecDepth 20000 in
theorem gL_law_X7_ribbon : GoodIn wsL_law (wsV RL 161 RX7 yX7_ribbon wsX7_ribbon) := goodIn_app (goodIn_of _ (by decide +kernel)) ggL_law_X7_ribbon
