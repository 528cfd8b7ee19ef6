set_option maxRecDepth 20000 in
theorem dg_wsX7_digest_r5 : GoodIn wsL_law wsX7_digest_r5 := goodIn_r _ [819, 820, 217, 218, 219, 220, 290, 291, 292, 293, 309, 310, 311, 312, 329, 330, 331, 332, 378, 379, 380, 381, 211, 212] (by decide +kernel) (by decide +kernel)
set_option maxRecDepth 20000 in
theorem dg_wsX7_digest_r6 : GoodIn wsL_law wsX7_digest_r6 := goodIn_r _ [213, 409, 410, 411, 412, 850, 851, 852, 853, 262, 263, 264, 265, 270, 271, 272, 273, 532, 533, 534, 535, 536, 537, 538] (by decide +kernel) (by decide +kernel)
set_option maxRecDepth 20000 in
theorem dg_wsX7_digest_r7 : GoodIn wsL_law wsX7_digest_r7 := goodIn_r _ [539, 879, 880, 881, 882, 524, 525, 526, 527, 528, 529, 530, 531, 734, 735, 736, 737, 892, 893, 894, 895, 905, 906, 907] (by decide +kernel) (by decide +kernel)
set_option maxRecDepth 20000 in
theorem dg_wsX7_digest_r8 : GoodIn wsL_law wsX7_digest_r8 := goodIn_r _ [908, 918, 919, 920, 921, 922, 991, 992, 993, 994, 995, 996, 997, 931, 932, 933, 934, 998, 999, 1000, 1001, 1002] (by decide +kernel) (by decide +kernel)
set_option maxRecDepth 20000 in
theorem dg_wsX60 : GoodIn wsL_law wsX60 := goodIn_r _ [1003, 1004, 1005, 1006, 1007, 1008, 1009] (by decide +kernel) (by decide +kernel)
set_option maxRecDepth 20000 in
theorem dg_wsX40 : GoodIn wsL_law wsX40 := goodIn_r _ [1022, 1023, 1024, 1025, 1026, 1027, 1028, 1029, 1030, 1031, 1032, 1033] (by decide +kernel) (by decide +kernel)
set_option maxRecDepth 20000 in
theorem dg_wsX10 : GoodIn wsL_law wsX10 := goodIn_r _ [1045, 1046, 1047] (by decide +kernel) (by decide +kernel)
set_option maxRecDepth 20000 in
theorem dg_wsX30 : GoodIn wsL_law wsX30 := goodIn_r _ [1048, 1049, 1050, 1051] (by decide +kernel) (by decide +kernel)
set_option maxRecDepth 20000 in
theorem dg_wsX20 : GoodIn wsL_law wsX20 := goodIn_r _ [1034, 1035] (by decide +kernel) (by decide +kernel)
set_option maxRecDepth 20000 in
theorem dg_wsX00 : GoodIn wsL_law wsX00 := goodIn_r _ [1038, 1039, 1040, 1041, 1042, 1043, 1044] (by decide +kernel) (by decide +kernel)
set_option maxRecDepth 20000 in
theorem dg_wsX50 : GoodIn wsL_law wsX50 := goodIn_r _ [1036, 1037] (by decide +kernel) (by decide +kernel)
set_option maxRecDepth 20000 in
theorem dg_wsX70 : GoodIn wsL_law wsX70 := goodIn_r _ [1010, 1011, 1012, 1013, 1014, 1015, 1016, 1017, 1018, 1019, 1020, 1021] (by decide +kernel) (by decide +kernel)
set_option maxRecDepth 20000 in
theorem dg_c6 : GoodIn wsL_law [.code yX6_digest cX6_digest 4 (some .long)] := goodIn_r _ [938] (by decide +kernel) (by decide +kernel)
set_option maxRecDepth 20000 in
theorem dg_c7 : GoodIn wsL_law [.code yX7_digest cX7_digest 2 (some .long)] := goodIn_r _ [979] (by decide +kernel) (by decide +kernel)
set_option maxRecDepth 20000 in
theorem ggL_law_X6_digest : GoodIn wsL_law wsX6_digest := goodIn_ca (a := []) dg_c6 (goodIn_app (goodIn_app (goodIn_app (goodIn_app (goodIn_app (goodIn_app (goodIn_app (goodIn_app (goodIn_app (goodIn_app dg_wsX6_digest_r1 (goodIn_app dg_wsX6_digest_r2 (goodIn_app dg_wsX6_digest_r3 (goodIn_app dg_wsX6_digest_r4 (goodIn_app dg_wsX6_digest_r5 (goodIn_app dg_wsX6_digest_r6 (goodIn_app dg_wsX6_digest_r7 (goodIn_app dg_wsX6_digest_r8 (goodIn_app dg_wsX6_digest_r9 (goodIn_app dg_wsX6_digest_r10 dg_wsX6_digest_r11)))))))))) dg_wsX60) dg_wsX40) dg_wsX10) dg_wsX30) dg_wsX20) dg_wsX00) dg_wsX50) (goodIn_sub (fun _ h => List.mem_append_left _ (List.mem_append_right _ h)) (by decide +kernel))) (goodIn_sub (fun _ h => List.mem_append_left _ (List.mem_append_left _ (List.mem_append_right _ h))) (by decide +kernel)))
set_option maxRecDepth 20000 in
theorem gL_law_X6_digest : GoodIn wsL_law (wsV RL 198 RX6 yX6_digest wsX6_digest) := goodIn_app (goodIn_of _ (by decide +kernel)) ggL_law_X6_digest
set_option maxRecDepth 20000 in
theorem ggL_law_X7_digest : GoodIn wsL_law wsX7_digest := goodIn_ca (a := []) dg_c7 (goodIn_app (goodIn_app dg_wsX7_digest_r1 (goodIn_app dg_wsX7_digest_r2 (goodIn_app dg_wsX7_digest_r3 (goodIn_app dg_wsX7_digest_r4 (goodIn_app dg_wsX7_digest_r5 (goodIn_app dg_wsX7_digest_r6 (goodIn_app dg_wsX7_digest_r7 dg_wsX7_digest_r8))))))) dg_wsX70)
set_option maxRecDepth 20000 in
theorem gL_law_X7_digest : GoodIn wsL_law (wsV RL 202 RX7 yX7_digest wsX7_digest) := goodIn_app (goodIn_of _ (by decide +kernel)) ggL_law_X7_digest
