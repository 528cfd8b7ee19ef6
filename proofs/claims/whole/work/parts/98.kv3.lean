set_option maxRecDepth 20000 in
theorem ggL_law_L_noted : GoodIn wsL_law wsL_noted := goodIn_ca (goodIn_ca (goodIn_r _ [740, 133, 134, 741, 742, 743, 2, 744, 145, 146, 16, 745, 147, 148, 149, 150, 151, 746, 747, 748, 42, 749, 100, 97, 98, 99, 1003, 1004, 1005, 1006, 1007, 1008, 1009, 1022, 1023, 1024, 1025, 1026, 1027, 1028, 1029, 1030, 1031, 1032, 1033, 1048, 1049, 1050, 1051] (by decide +kernel) (by decide +kernel)) (goodIn_sub (fun _ h => List.mem_append_left _ (List.mem_append_left _ (List.mem_append_right _ h))) (by decide +kernel))) (goodIn_sub (fun _ h => List.mem_append_left _ (List.mem_append_right _ h)) (by decide +kernel))
set_option maxRecDepth 20000 in
theorem gL_law_L_noted : GoodIn wsL_law (va_wsS RL 162 yL_noted wsL_noted) := goodIn_app (goodIn_of _ (by decide +kernel)) ggL_law_L_noted
set_option maxRecDepth 20000 in
theorem ggL_law_X7_noted : GoodIn wsL_law wsX7_noted := goodIn_r _ [753, 126, 211, 212, 5, 213, 252, 253, 254, 255, 256, 1010, 1011, 1012, 1013, 1014, 1015, 1016, 1017, 1018, 1019, 1020, 1021] (by decide +kernel) (by decide +kernel)
set_option maxRecDepth 20000 in
theorem gL_law_X7_noted : GoodIn wsL_law (wsV RL 164 RX7 yX7_noted wsX7_noted) := goodIn_app (goodIn_of _ (by decide +kernel)) ggL_law_X7_noted
set_option maxRecDepth 20000 in
theorem ggL_law_L_count : GoodIn wsL_law wsL_count := goodIn_ca (goodIn_r _ [756, 134, 757, 758, 759, 2, 760, 16, 442, 140, 761, 762, 763, 495, 764, 745, 765, 22, 685, 147, 148, 149, 150, 151, 766, 767, 768, 29, 769, 59, 770, 771, 772, 773, 63, 401, 402, 403, 404, 66, 774, 775, 776, 777, 778, 779, 780, 781, 1003, 1004, 1005, 1006, 1007, 1008, 1009, 1022, 1023, 1024, 1025, 1026, 1027, 1028, 1029, 1030, 1031, 1032, 1033, 1048, 1049, 1050, 1051, 1034, 1035, 1038, 1039, 1040, 1041, 1042, 1043, 1044] (by decide +kernel) (by decide +kernel)) (goodIn_sub (fun _ h => List.mem_append_left _ (List.mem_append_right _ h)) (by decide +kernel))
set_option maxRecDepth 20000 in
theorem gL_law_L_count : GoodIn wsL_law (va_wsS RL 165 yL_count wsL_count) := goodIn_app (goodIn_of _ (by decide +kernel)) ggL_law_L_count
set_option maxRecDepth 20000 in
theorem ggL_law_X7_count : GoodIn wsL_law wsX7_count := goodIn_r _ [785, 211, 212, 5, 213, 252, 253, 254, 255, 256, 786, 787, 788, 789, 126, 261, 790, 791, 792, 793, 221, 222, 223, 224, 794, 795, 796, 797, 241, 242, 243, 244, 417, 418, 419, 420, 128, 229, 230, 231, 232, 233, 234, 235, 236, 237, 238, 239, 240, 245, 246, 247, 248, 249, 250, 251, 798, 799, 800, 801, 802, 803, 804, 805, 1010, 1011, 1012, 1013, 1014, 1015, 1016, 1017, 1018, 1019, 1020, 1021] (by decide +kernel) (by decide +kernel)
set_option maxRecDepth 20000 in
theorem gL_law_X7_count : GoodIn wsL_law (wsV RL 167 RX7 yX7_count wsX7_count) := goodIn_app (goodIn_of _ (by decide +kernel)) ggL_law_X7_count
set_option maxRecDepth 20000 in
theorem ggL_law_L_why : GoodIn wsL_law wsL_why := goodIn_ca (goodIn_ca (goodIn_r _ [808, 133, 134, 809, 810, 811, 2, 812, 16, 140, 142, 143, 144, 145, 146, 360, 361, 362, 147, 148, 149, 150, 151, 158, 159, 160, 29, 161, 59, 66, 60, 63, 162, 163, 164, 165, 166, 167, 81, 168, 1003, 1004, 1005, 1006, 1007, 1008, 1009, 1022, 1023, 1024, 1025, 1026, 1027, 1028, 1029, 1030, 1031, 1032, 1033, 1038, 1039, 1040, 1041, 1042, 1043, 1044] (by decide +kernel) (by decide +kernel)) (goodIn_sub (fun _ h => List.mem_append_left _ (List.mem_append_left _ (List.mem_append_right _ h))) (by decide +kernel))) (goodIn_sub (fun _ h => List.mem_append_left _ (List.mem_append_right _ h)) (by decide +kernel))
set_option maxRecDepth 20000 in
theorem gL_law_L_why : GoodIn wsL_law (va_wsS RL 168 yL_why wsL_why) := goodIn_app (goodIn_of _ (by decide +kernel)) ggL_law_L_why
set_option maxRecDepth 20000 in
theorem ggL_law_X7_why : GoodIn wsL_law wsX7_why := goodIn_r _ [816, 208, 209, 5, 210, 211, 212, 213, 375, 376, 377, 252, 253, 254, 255, 256, 817, 818, 819, 820, 217, 218, 219, 220, 221, 222, 223, 224, 126, 225, 226, 227, 228, 128, 229, 230, 231, 232, 233, 234, 235, 236, 237, 238, 239, 240, 241, 242, 243, 244, 245, 246, 247, 248, 249, 250, 251, 290, 291, 292, 293, 309, 310, 311, 312, 329, 330, 331, 332, 378, 379, 380, 381, 409, 410, 411, 412, 1010, 1011, 1012, 1013, 1014, 1015, 1016, 1017, 1018, 1019, 1020, 1021] (by decide +kernel) (by decide +kernel)
