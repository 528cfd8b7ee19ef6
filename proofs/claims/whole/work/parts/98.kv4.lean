set_option maxRecDepth 20000 in
theorem gL_law_X7_why : GoodIn wsL_law (wsV RL 170 RX7 yX7_why wsX7_why) := goodIn_app (goodIn_of _ (by decide +kernel)) ggL_law_X7_why
set_option maxRecDepth 20000 in
theorem ggL_law_L_stopped : GoodIn wsL_law wsL_stopped := goodIn_ca (goodIn_r _ [823, 134, 824, 825, 826, 2, 827, 16, 618, 619, 147, 148, 149, 150, 151, 1003, 1004, 1005, 1006, 1007, 1008, 1009, 1022, 1023, 1024, 1025, 1026, 1027, 1028, 1029, 1030, 1031, 1032, 1033] (by decide +kernel) (by decide +kernel)) (goodIn_sub (fun _ h => List.mem_append_left _ (List.mem_append_right _ h)) (by decide +kernel))
set_option maxRecDepth 20000 in
theorem gL_law_L_stopped : GoodIn wsL_law (va_wsS RL 171 yL_stopped wsL_stopped) := goodIn_app (goodIn_of _ (by decide +kernel)) ggL_law_L_stopped
set_option maxRecDepth 20000 in
theorem ggL_law_X7_stopped : GoodIn wsL_law wsX7_stopped := goodIn_r _ [831, 126, 211, 212, 5, 213, 252, 253, 254, 255, 256, 1010, 1011, 1012, 1013, 1014, 1015, 1016, 1017, 1018, 1019, 1020, 1021] (by decide +kernel) (by decide +kernel)
set_option maxRecDepth 20000 in
theorem gL_law_X7_stopped : GoodIn wsL_law (wsV RL 173 RX7 yX7_stopped wsX7_stopped) := goodIn_app (goodIn_of _ (by decide +kernel)) ggL_law_X7_stopped
set_option maxRecDepth 20000 in
theorem ggL_law_L_ifDropped : GoodIn wsL_law wsL_ifDropped := goodIn_ca (goodIn_ca (goodIn_r _ [834, 133, 134, 835, 836, 837, 2, 838, 16, 140, 324, 30, 285, 142, 143, 144, 145, 146, 147, 148, 149, 150, 151, 839, 186, 187, 29, 188, 59, 189, 182, 183, 184, 60, 61, 63, 64, 65, 66, 840, 72, 73, 74, 75, 76, 77, 78, 79, 80, 81, 82, 83, 84, 85, 86, 87, 88, 89, 90, 91, 92, 93, 401, 402, 403, 404, 841, 842, 843, 844, 845, 727, 728, 729, 508, 509, 510, 511, 512, 513, 514, 515, 1003, 1004, 1005, 1006, 1007, 1008, 1009, 1022, 1023, 1024, 1025, 1026, 1027, 1028, 1029, 1030, 1031, 1032, 1033, 1038, 1039, 1040, 1041, 1042, 1043, 1044] (by decide +kernel) (by decide +kernel)) (goodIn_sub (fun _ h => List.mem_append_left _ (List.mem_append_left _ (List.mem_append_right _ h))) (by decide +kernel))) (goodIn_sub (fun _ h => List.mem_append_left _ (List.mem_append_right _ h)) (by decide +kernel))
set_option maxRecDepth 20000 in
theorem gL_law_L_ifDropped : GoodIn wsL_law (va_wsS RL 174 yL_ifDropped wsL_ifDropped) := goodIn_app (goodIn_of _ (by decide +kernel)) ggL_law_L_ifDropped
set_option maxRecDepth 20000 in
theorem ggL_law_X7_ifDropped : GoodIn wsL_law wsX7_ifDropped := goodIn_r _ [849, 208, 209, 5, 210, 211, 212, 213, 252, 253, 254, 255, 256, 850, 851, 852, 853, 128, 221, 222, 223, 224, 126, 262, 263, 264, 265, 270, 271, 272, 273, 417, 418, 419, 420, 229, 230, 231, 232, 233, 234, 235, 236, 237, 238, 239, 240, 241, 242, 243, 244, 245, 246, 247, 248, 249, 250, 251, 532, 533, 534, 535, 536, 537, 538, 539, 1010, 1011, 1012, 1013, 1014, 1015, 1016, 1017, 1018, 1019, 1020, 1021] (by decide +kernel) (by decide +kernel)
set_option maxRecDepth 20000 in
theorem gL_law_X7_ifDropped : GoodIn wsL_law (wsV RL 176 RX7 yX7_ifDropped wsX7_ifDropped) := goodIn_app (goodIn_of _ (by decide +kernel)) ggL_law_X7_ifDropped
set_option maxRecDepth 20000 in
theorem ggL_law_L_landsIn : GoodIn wsL_law wsL_landsIn := goodIn_ca (goodIn_r _ [856, 133, 857, 858, 859, 2, 860, 34, 16, 140, 861, 142, 143, 144, 145, 146, 862, 863, 864, 33, 865, 118, 119, 120, 866, 186, 187, 29, 188, 59, 189, 182, 183, 184, 60, 61, 63, 64, 65, 66, 867, 68, 69, 70, 868, 869, 870, 871, 872, 873, 501, 502, 503, 79, 80, 81, 82, 71, 72, 73, 74, 75, 76, 77, 78, 83, 84, 85, 86, 87, 88, 89, 90, 91, 92, 93, 874, 505, 506, 507, 508, 509, 510, 511, 512, 513, 514, 515, 1003, 1004, 1005, 1006, 1007, 1008, 1009, 1022, 1023, 1024, 1025, 1026, 1027, 1028, 1029, 1030, 1031, 1032, 1033, 1045, 1046, 1047, 1038, 1039, 1040, 1041, 1042, 1043, 1044] (by decide +kernel) (by decide +kernel)) (goodIn_sub (fun _ h => List.mem_append_left _ (List.mem_append_left _ (List.mem_append_right _ h))) (by decide +kernel))
set_option maxRecDepth 20000 in
theorem gL_law_L_landsIn : GoodIn wsL_law (va_wsS RL 177 yL_landsIn wsL_landsIn) := goodIn_app (goodIn_of _ (by decide +kernel)) ggL_law_L_landsIn
