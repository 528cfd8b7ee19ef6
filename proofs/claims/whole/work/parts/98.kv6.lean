set_option maxRecDepth 20000 in
theorem gL_law_X6_meanHeight : GoodIn wsL_law (wsV RL 188 RX6 yX6_meanHeight wsX6_meanHeight) := goodIn_app (goodIn_of _ (by decide +kernel)) ggL_law_X6_meanHeight
set_option maxRecDepth 20000 in
theorem ggL_law_X7_meanHeight : GoodIn wsL_law wsX7_meanHeight := goodIn_r _ [917, 256, 918, 919, 920, 5, 921, 922, 417, 418, 419, 420, 128, 229, 230, 231, 232, 233, 234, 235, 236, 237, 238, 239, 240, 221, 222, 223, 224, 126, 241, 242, 243, 244, 245, 246, 247, 248, 249, 250, 251, 1010, 1011, 1012, 1013, 1014, 1015, 1016, 1017, 1018, 1019, 1020, 1021] (by decide +kernel) (by decide +kernel)
set_option maxRecDepth 20000 in
theorem gL_law_X7_meanHeight : GoodIn wsL_law (wsV RL 192 RX7 yX7_meanHeight wsX7_meanHeight) := goodIn_app (goodIn_of _ (by decide +kernel)) ggL_law_X7_meanHeight
set_option maxRecDepth 20000 in
theorem ggL_law_X6_lostShare : GoodIn wsL_law wsX6_lostShare := goodIn_r _ [926, 16, 762, 763, 761, 1003, 1004, 1005, 1006, 1007, 1008, 1009, 1022, 1023, 1024, 1025, 1026, 1027, 1028, 1029, 1030, 1031, 1032, 1033] (by decide +kernel) (by decide +kernel)
set_option maxRecDepth 20000 in
theorem gL_law_X6_lostShare : GoodIn wsL_law (wsV RL 193 RX6 yX6_lostShare wsX6_lostShare) := goodIn_app (goodIn_of _ (by decide +kernel)) ggL_law_X6_lostShare
set_option maxRecDepth 20000 in
theorem ggL_law_X7_lostShare : GoodIn wsL_law wsX7_lostShare := goodIn_r _ [930, 256, 931, 932, 933, 5, 934, 126, 1010, 1011, 1012, 1013, 1014, 1015, 1016, 1017, 1018, 1019, 1020, 1021] (by decide +kernel) (by decide +kernel)
set_option maxRecDepth 20000 in
theorem gL_law_X7_lostShare : GoodIn wsL_law (wsV RL 197 RX7 yX7_lostShare wsX7_lostShare) := goodIn_app (goodIn_of _ (by decide +kernel)) ggL_law_X7_lostShare
