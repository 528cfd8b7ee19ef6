theorem dL_cell_0 : decode cL_cell 0 = .ok (.iload_n 1, 1) := by decide +kernel
theorem dL_cell_1 : decode cL_cell 1 = .ok (.aload_n 0, 1) := by decide +kernel
theorem dL_cell_2 : decode cL_cell 2 = .ok (.arraylength, 1) := by decide +kernel
theorem dL_cell_3 : decode cL_cell 3 = .ok (.if_icmp .ge 9, 3) := by decide +kernel
theorem dL_cell_6 : decode cL_cell 6 = .ok (.aload_n 0, 1) := by decide +kernel
theorem dL_cell_7 : decode cL_cell 7 = .ok (.iload_n 1, 1) := by decide +kernel
theorem dL_cell_8 : decode cL_cell 8 = .ok (.iaload, 1) := by decide +kernel
theorem dL_cell_9 : decode cL_cell 9 = .ok (.goto 11, 3) := by decide +kernel
theorem dL_cell_12 : decode cL_cell 12 = .ok (.ldc 7, 2) := by decide +kernel
theorem dL_cell_14 : decode cL_cell 14 = .ok (.iload_n 1, 1) := by decide +kernel
theorem dL_cell_15 : decode cL_cell 15 = .ok (.sipush 311, 3) := by decide +kernel
theorem dL_cell_18 : decode cL_cell 18 = .ok (.iadd, 1) := by decide +kernel
theorem dL_cell_19 : decode cL_cell 19 = .ok (.imul, 1) := by decide +kernel
theorem dL_cell_20 : decode cL_cell 20 = .ok (.ireturn, 1) := by decide +kernel
theorem dL_up_0 : decode cL_up 0 = .ok (.iload_n 0, 1) := by decide +kernel
theorem dL_up_1 : decode cL_up 1 = .ok (.ldc 8, 2) := by decide +kernel
theorem dL_up_3 : decode cL_up 3 = .ok (.iand, 1) := by decide +kernel
theorem dL_up_4 : decode cL_up 4 = .ok (.iload_n 1, 1) := by decide +kernel
theorem dL_up_5 : decode cL_up 5 = .ok (.irem, 1) := by decide +kernel
theorem dL_up_6 : decode cL_up 6 = .ok (.ireturn, 1) := by decide +kernel
set_option maxRecDepth 20000 in
theorem ggL_looks_X6_count : GoodIn wsL_looks wsX6_count := goodIn_ca (goodIn_r _ [7, 8, 9, 10, 11, 12, 13, 14, 15, 16, 17, 18, 19, 20, 21, 6, 22, 23, 24, 25, 26, 27, 28, 29, 30, 31, 32, 33, 34, 35, 36, 37, 38, 39, 40, 41, 42, 43, 44, 45, 46, 47, 48, 149, 150, 151, 152, 153, 154, 155, 156, 157, 158, 159, 160, 161, 162, 163, 164, 165, 166, 167, 168, 169, 170, 171, 172, 173, 174, 175, 176, 177, 178, 179, 180] (by decide +kernel) (by decide +kernel)) (goodIn_sub (fun _ h => List.mem_cons_of_mem _ (List.mem_append_left _ (List.mem_append_right _ h))) (by decide +kernel))
set_option maxRecDepth 20000 in
theorem gL_looks_X6_count : GoodIn wsL_looks (wsV RL 13 RX6 yX6_count wsX6_count) := goodIn_app (goodIn_of _ (by decide +kernel)) ggL_looks_X6_count
set_option maxRecDepth 20000 in
theorem ggL_looks_X6_balloon : GoodIn wsL_looks wsX6_balloon := goodIn_ca (goodIn_ca (goodIn_r _ [52, 8, 10, 53, 54, 55, 56, 57, 9, 58, 59, 60, 6, 61, 62, 63, 20, 21, 22, 23, 24, 64, 65, 66, 28, 67, 30, 68, 69, 70, 71, 72, 73, 74, 75, 76, 77, 78, 79, 80, 81, 82, 83, 84, 35, 85, 86, 87, 88, 89, 90, 91, 92, 93, 94, 95, 96, 97, 98, 99, 100, 101, 102, 103, 104, 105, 149, 150, 151, 152, 153, 154, 155, 156, 157, 158, 159, 160, 161, 162, 163, 164, 165, 166, 167, 174, 175, 176, 177, 178, 179, 180] (by decide +kernel) (by decide +kernel)) (goodIn_sub (fun _ h => List.mem_cons_of_mem _ (List.mem_append_right _ h)) (by decide +kernel))) (goodIn_sub (fun _ h => List.mem_cons_of_mem _ (List.mem_append_left _ (List.mem_append_right _ h))) (by decide +kernel))
set_option maxRecDepth 20000 in
theorem gL_looks_X6_balloon : GoodIn wsL_looks (wsV RL 19 RX6 yX6_balloon wsX6_balloon) := goodIn_app (goodIn_of _ (by decide +kernel)) ggL_looks_X6_balloon
set_option maxRecDepth 20000 in
theorem ggL_looks_X6_noted : GoodIn wsL_looks wsX6_noted := goodIn_ca (goodIn_ca (goodIn_r _ [109, 62, 63, 8, 16, 20, 21, 6, 22, 23, 24, 110, 111, 112, 113, 114, 115, 116, 117, 118, 149, 150, 151, 152, 153, 154, 155, 156, 157, 158, 159, 160, 161, 162, 163, 164, 165, 166, 167, 168, 169, 170, 171] (by decide +kernel) (by decide +kernel)) (goodIn_sub (fun _ h => List.mem_cons_of_mem _ (List.mem_append_right _ h)) (by decide +kernel))) (goodIn_sub (fun _ h => List.mem_cons_of_mem _ (List.mem_append_left _ (List.mem_append_right _ h))) (by decide +kernel))
set_option maxRecDepth 20000 in
theorem gL_looks_X6_noted : GoodIn wsL_looks (wsV RL 23 RX6 yX6_noted wsX6_noted) := goodIn_app (goodIn_of _ (by decide +kernel)) ggL_looks_X6_noted
set_option maxRecDepth 20000 in
theorem ggL_looks_X6_ribbon : GoodIn wsL_looks wsX6_ribbon := goodIn_ca (goodIn_ca (goodIn_r _ [122, 8, 10, 123, 124, 125, 126, 127, 6, 128, 62, 63, 20, 21, 22, 23, 24, 129, 130, 131, 28, 132, 35, 40, 85, 133, 134, 135, 136, 86, 70, 71, 72, 73, 74, 75, 76, 77, 78, 79, 80, 65, 66, 67, 30, 68, 137, 138, 139, 140, 141, 142, 149, 150, 151, 152, 153, 154, 155, 156, 157, 158, 159, 160, 161, 162, 163, 164, 165, 166, 167, 174, 175, 176, 177, 178, 179, 180] (by decide +kernel) (by decide +kernel)) (goodIn_sub (fun _ h => List.mem_cons_of_mem _ (List.mem_append_right _ h)) (by decide +kernel))) (goodIn_sub (fun _ h => List.mem_cons_of_mem _ (List.mem_append_left _ (List.mem_append_right _ h))) (by decide +kernel))
set_option maxRecDepth 20000 in
theorem gL_looks_X6_ribbon : GoodIn wsL_looks (wsV RL 26 RX6 yX6_ribbon wsX6_ribbon) := goodIn_app (goodIn_of _ (by decide +kernel)) ggL_looks_X6_ribbon
set_option maxRecDepth 20000 in
theorem ggL_looks_X6_stopped : GoodIn wsL_looks wsX6_stopped := goodIn_ca (goodIn_r _ [146, 8, 147, 148, 20, 21, 6, 22, 23, 24, 149, 150, 151, 152, 153, 154, 155, 156, 157, 158, 159, 160, 161, 162, 163, 164, 165, 166, 167] (by decide +kernel) (by decide +kernel)) (goodIn_sub (fun _ h => List.mem_cons_of_mem _ (List.mem_append_left _ (List.mem_append_right _ h))) (by decide +kernel))
set_option maxRecDepth 20000 in
theorem gL_looks_X6_stopped : GoodIn wsL_looks (wsV RL 29 RX6 yX6_stopped wsX6_stopped) := goodIn_app (goodIn_of _ (by decide +kernel)) ggL_looks_X6_stopped
theorem dL_looks_0 : decode cL_looks 0 = .ok (.ldc2_w 9, 3) := by decide +kernel
theorem dL_looks_3 : decode cL_looks 3 = .ok (.lstore_n 1, 1) := by decide +kernel
theorem dL_looks_4 : decode cL_looks 4 = .ok (.iconst 0, 1) := by decide +kernel
theorem dL_looks_5 : decode cL_looks 5 = .ok (.istore_n 3, 1) := by decide +kernel
theorem dL_looks_6 : decode cL_looks 6 = .ok (.iload_n 3, 1) := by decide +kernel
theorem dL_looks_7 : decode cL_looks 7 = .ok (.bipush 14, 2) := by decide +kernel
theorem dL_looks_9 : decode cL_looks 9 = .ok (.if_icmp .ge 22, 3) := by decide +kernel
theorem dL_looks_12 : decode cL_looks 12 = .ok (.ldc2_w 11, 3) := by decide +kernel
theorem dL_looks_15 : decode cL_looks 15 = .ok (.lload_n 1, 1) := by decide +kernel
theorem dL_looks_16 : decode cL_looks 16 = .ok (.lmul, 1) := by decide +kernel
theorem dL_looks_17 : decode cL_looks 17 = .ok (.aload_n 0, 1) := by decide +kernel
theorem dL_looks_18 : decode cL_looks 18 = .ok (.iload_n 3, 1) := by decide +kernel
theorem dL_looks_19 : decode cL_looks 19 = .ok (.invokevirtual 13, 3) := by decide +kernel
theorem dL_looks_22 : decode cL_looks 22 = .ok (.i2l, 1) := by decide +kernel
theorem dL_looks_23 : decode cL_looks 23 = .ok (.ladd, 1) := by decide +kernel
theorem dL_looks_24 : decode cL_looks 24 = .ok (.lstore_n 1, 1) := by decide +kernel
theorem dL_looks_25 : decode cL_looks 25 = .ok (.iinc 3 1, 3) := by decide +kernel
theorem dL_looks_28 : decode cL_looks 28 = .ok (.goto (-22), 3) := by decide +kernel
theorem dL_looks_31 : decode cL_looks 31 = .ok (.iconst 0, 1) := by decide +kernel
theorem dL_looks_32 : decode cL_looks 32 = .ok (.istore_n 3, 1) := by decide +kernel
theorem dL_looks_33 : decode cL_looks 33 = .ok (.iload_n 3, 1) := by decide +kernel
theorem dL_looks_34 : decode cL_looks 34 = .ok (.bipush 96, 2) := by decide +kernel
theorem dL_looks_36 : decode cL_looks 36 = .ok (.if_icmp .ge 29, 3) := by decide +kernel
theorem dL_looks_39 : decode cL_looks 39 = .ok (.ldc2_w 11, 3) := by decide +kernel
theorem dL_looks_42 : decode cL_looks 42 = .ok (.lload_n 1, 1) := by decide +kernel
theorem dL_looks_43 : decode cL_looks 43 = .ok (.lmul, 1) := by decide +kernel
theorem dL_looks_44 : decode cL_looks 44 = .ok (.aload_n 0, 1) := by decide +kernel
theorem dL_looks_45 : decode cL_looks 45 = .ok (.iload_n 3, 1) := by decide +kernel
theorem dL_looks_46 : decode cL_looks 46 = .ok (.bipush 12, 2) := by decide +kernel
theorem dL_looks_48 : decode cL_looks 48 = .ok (.idiv, 1) := by decide +kernel
theorem dL_looks_49 : decode cL_looks 49 = .ok (.iload_n 3, 1) := by decide +kernel
theorem dL_looks_50 : decode cL_looks 50 = .ok (.bipush 12, 2) := by decide +kernel
theorem dL_looks_52 : decode cL_looks 52 = .ok (.irem, 1) := by decide +kernel
theorem dL_looks_53 : decode cL_looks 53 = .ok (.invokevirtual 19, 3) := by decide +kernel
theorem dL_looks_56 : decode cL_looks 56 = .ok (.i2l, 1) := by decide +kernel
theorem dL_looks_57 : decode cL_looks 57 = .ok (.ladd, 1) := by decide +kernel
theorem dL_looks_58 : decode cL_looks 58 = .ok (.lstore_n 1, 1) := by decide +kernel
theorem dL_looks_59 : decode cL_looks 59 = .ok (.iinc 3 1, 3) := by decide +kernel
theorem dL_looks_62 : decode cL_looks 62 = .ok (.goto (-29), 3) := by decide +kernel
theorem dL_looks_65 : decode cL_looks 65 = .ok (.iconst 0, 1) := by decide +kernel
theorem dL_looks_66 : decode cL_looks 66 = .ok (.istore_n 3, 1) := by decide +kernel
theorem dL_looks_67 : decode cL_looks 67 = .ok (.iload_n 3, 1) := by decide +kernel
theorem dL_looks_68 : decode cL_looks 68 = .ok (.bipush 60, 2) := by decide +kernel
theorem dL_looks_70 : decode cL_looks 70 = .ok (.if_icmp .ge 53, 3) := by decide +kernel
theorem dL_looks_73 : decode cL_looks 73 = .ok (.ldc2_w 11, 3) := by decide +kernel
theorem dL_looks_76 : decode cL_looks 76 = .ok (.ldc2_w 11, 3) := by decide +kernel
theorem dL_looks_79 : decode cL_looks 79 = .ok (.lload_n 1, 1) := by decide +kernel
theorem dL_looks_80 : decode cL_looks 80 = .ok (.lmul, 1) := by decide +kernel
theorem dL_looks_81 : decode cL_looks 81 = .ok (.aload_n 0, 1) := by decide +kernel
theorem dL_looks_82 : decode cL_looks 82 = .ok (.iload_n 3, 1) := by decide +kernel
theorem dL_looks_83 : decode cL_looks 83 = .ok (.iconst 3, 1) := by decide +kernel
theorem dL_looks_84 : decode cL_looks 84 = .ok (.idiv, 1) := by decide +kernel
theorem dL_looks_85 : decode cL_looks 85 = .ok (.iload_n 3, 1) := by decide +kernel
theorem dL_looks_86 : decode cL_looks 86 = .ok (.iconst 3, 1) := by decide +kernel
theorem dL_looks_87 : decode cL_looks 87 = .ok (.irem, 1) := by decide +kernel
theorem dL_looks_88 : decode cL_looks 88 = .ok (.invokevirtual 23, 3) := by decide +kernel
theorem dL_looks_91 : decode cL_looks 91 = .ok (.i2l, 1) := by decide +kernel
theorem dL_looks_92 : decode cL_looks 92 = .ok (.ladd, 1) := by decide +kernel
theorem dL_looks_93 : decode cL_looks 93 = .ok (.lmul, 1) := by decide +kernel
theorem dL_looks_94 : decode cL_looks 94 = .ok (.iload_n 3, 1) := by decide +kernel
theorem dL_looks_95 : decode cL_looks 95 = .ok (.bipush 35, 2) := by decide +kernel
theorem dL_looks_97 : decode cL_looks 97 = .ok (.if_icmp .ge 16, 3) := by decide +kernel
theorem dL_looks_100 : decode cL_looks 100 = .ok (.aload_n 0, 1) := by decide +kernel
theorem dL_looks_101 : decode cL_looks 101 = .ok (.iload_n 3, 1) := by decide +kernel
theorem dL_looks_102 : decode cL_looks 102 = .ok (.iconst 5, 1) := by decide +kernel
theorem dL_looks_103 : decode cL_looks 103 = .ok (.idiv, 1) := by decide +kernel
theorem dL_looks_104 : decode cL_looks 104 = .ok (.iload_n 3, 1) := by decide +kernel
theorem dL_looks_105 : decode cL_looks 105 = .ok (.iconst 5, 1) := by decide +kernel
theorem dL_looks_106 : decode cL_looks 106 = .ok (.irem, 1) := by decide +kernel
theorem dL_looks_107 : decode cL_looks 107 = .ok (.invokevirtual 26, 3) := by decide +kernel
theorem dL_looks_110 : decode cL_looks 110 = .ok (.goto 4, 3) := by decide +kernel
theorem dL_looks_113 : decode cL_looks 113 = .ok (.iconst 0, 1) := by decide +kernel
theorem dL_looks_114 : decode cL_looks 114 = .ok (.i2l, 1) := by decide +kernel
theorem dL_looks_115 : decode cL_looks 115 = .ok (.ladd, 1) := by decide +kernel
theorem dL_looks_116 : decode cL_looks 116 = .ok (.lstore_n 1, 1) := by decide +kernel
theorem dL_looks_117 : decode cL_looks 117 = .ok (.iinc 3 1, 3) := by decide +kernel
theorem dL_looks_120 : decode cL_looks 120 = .ok (.goto (-53), 3) := by decide +kernel
theorem dL_looks_123 : decode cL_looks 123 = .ok (.ldc2_w 11, 3) := by decide +kernel
theorem dL_looks_126 : decode cL_looks 126 = .ok (.ldc2_w 11, 3) := by decide +kernel
theorem dL_looks_129 : decode cL_looks 129 = .ok (.lload_n 1, 1) := by decide +kernel
theorem dL_looks_130 : decode cL_looks 130 = .ok (.lmul, 1) := by decide +kernel
theorem dL_looks_131 : decode cL_looks 131 = .ok (.aload_n 0, 1) := by decide +kernel
theorem dL_looks_132 : decode cL_looks 132 = .ok (.iconst 0, 1) := by decide +kernel
theorem dL_looks_133 : decode cL_looks 133 = .ok (.invokevirtual 29, 3) := by decide +kernel
theorem dL_looks_136 : decode cL_looks 136 = .ok (.i2l, 1) := by decide +kernel
theorem dL_looks_137 : decode cL_looks 137 = .ok (.ladd, 1) := by decide +kernel
theorem dL_looks_138 : decode cL_looks 138 = .ok (.lmul, 1) := by decide +kernel
theorem dL_looks_139 : decode cL_looks 139 = .ok (.aload_n 0, 1) := by decide +kernel
theorem dL_looks_140 : decode cL_looks 140 = .ok (.iconst 1, 1) := by decide +kernel
theorem dL_looks_141 : decode cL_looks 141 = .ok (.invokevirtual 29, 3) := by decide +kernel
theorem dL_looks_144 : decode cL_looks 144 = .ok (.i2l, 1) := by decide +kernel
theorem dL_looks_145 : decode cL_looks 145 = .ok (.ladd, 1) := by decide +kernel
theorem dL_looks_146 : decode cL_looks 146 = .ok (.lreturn, 1) := by decide +kernel
