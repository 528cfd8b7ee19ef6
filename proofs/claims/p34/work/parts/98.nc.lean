set_option maxRecDepth 20000 in
theorem ggL_holds_X6_balloon : GoodIn wsL_holds wsX6_balloon := goodIn_ca (goodIn_ca (goodIn_r _ [6, 7, 8, 9, 10, 11, 12, 13, 14, 15, 16, 17, 5, 18, 19, 20, 21, 22, 23, 24, 25, 26, 27, 28, 29, 30, 31, 32, 33, 34, 35, 36, 37, 38, 39, 40, 41, 42, 43, 44, 45, 46, 47, 48, 49, 50, 51, 52, 53, 54, 55, 56, 57, 58, 59, 60, 61, 62, 63, 64, 65, 66, 67, 68, 69, 70, 226, 227, 228, 229, 230, 231, 232, 233, 234, 235, 236, 237, 238, 239, 240, 241, 242, 243, 244, 245, 246, 247, 248, 249, 250, 251] (by decide +kernel) (by decide +kernel)) (goodIn_sub (fun _ h => List.mem_cons_of_mem _ (List.mem_append_left _ (List.mem_append_right _ h))) (by decide +kernel))) (goodIn_sub (fun _ h => List.mem_cons_of_mem _ (List.mem_append_right _ h)) (by decide +kernel))
set_option maxRecDepth 20000 in
theorem gL_holds_X6_balloon : GoodIn wsL_holds (wsV RL 19 RX6 yX6_balloon wsX6_balloon) := goodIn_app (goodIn_of _ (by decide +kernel)) ggL_holds_X6_balloon
set_option maxRecDepth 20000 in
theorem ggL_holds_X6_count : GoodIn wsL_holds wsX6_count := goodIn_ca (goodIn_r _ [74, 7, 14, 8, 75, 76, 77, 78, 79, 80, 81, 82, 83, 21, 22, 5, 23, 24, 25, 84, 85, 86, 29, 87, 31, 88, 89, 90, 91, 49, 92, 93, 94, 95, 96, 97, 98, 99, 100, 101, 102, 103, 104, 226, 227, 228, 229, 230, 231, 232, 233, 234, 235, 236, 237, 238, 239, 240, 241, 242, 243, 244, 252, 253, 254, 255, 256, 257, 245, 246, 247, 248, 249, 250, 251] (by decide +kernel) (by decide +kernel)) (goodIn_sub (fun _ h => List.mem_cons_of_mem _ (List.mem_append_right _ h)) (by decide +kernel))
set_option maxRecDepth 20000 in
theorem gL_holds_X6_count : GoodIn wsL_holds (wsV RL 13 RX6 yX6_count wsX6_count) := goodIn_app (goodIn_of _ (by decide +kernel)) ggL_holds_X6_count
set_option maxRecDepth 20000 in
theorem ggL_holds_X6_landsIn : GoodIn wsL_holds wsX6_landsIn := goodIn_ca (goodIn_r _ [108, 109, 7, 8, 110, 16, 17, 5, 18, 19, 20, 111, 112, 113, 114, 115, 116, 117, 118, 119, 120, 121, 29, 122, 31, 123, 124, 125, 126, 32, 127, 49, 50, 128, 96, 129, 130, 131, 132, 133, 134, 135, 136, 137, 138, 139, 140, 141, 37, 38, 39, 40, 142, 143, 144, 145, 51, 34, 35, 36, 41, 42, 43, 44, 27, 28, 30, 146, 147, 148, 149, 150, 151, 152, 153, 154, 155, 156, 157, 158, 159, 160, 161, 226, 227, 228, 229, 230, 231, 232, 233, 234, 235, 236, 237, 238, 239, 240, 241, 242, 243, 244, 258, 259, 260, 245, 246, 247, 248, 249, 250, 251] (by decide +kernel) (by decide +kernel)) (goodIn_sub (fun _ h => List.mem_cons_of_mem _ (List.mem_append_left _ (List.mem_append_right _ h))) (by decide +kernel))
set_option maxRecDepth 20000 in
theorem gL_holds_X6_landsIn : GoodIn wsL_holds (wsV RL 77 RX6 yX6_landsIn wsX6_landsIn) := goodIn_app (goodIn_of _ (by decide +kernel)) ggL_holds_X6_landsIn
set_option maxRecDepth 20000 in
theorem ggL_holds_X6_ifDropped : GoodIn wsL_holds wsX6_ifDropped := goodIn_ca (goodIn_ca (goodIn_r _ [165, 7, 8, 10, 166, 12, 16, 17, 5, 18, 19, 20, 21, 22, 23, 24, 25, 167, 120, 121, 29, 122, 31, 123, 124, 125, 126, 32, 127, 49, 50, 128, 96, 168, 143, 144, 145, 51, 34, 35, 36, 37, 38, 39, 40, 41, 42, 43, 44, 27, 28, 30, 146, 147, 148, 149, 92, 93, 94, 95, 169, 170, 171, 172, 173, 174, 175, 176, 154, 155, 156, 157, 158, 159, 160, 161, 226, 227, 228, 229, 230, 231, 232, 233, 234, 235, 236, 237, 238, 239, 240, 241, 242, 243, 244, 245, 246, 247, 248, 249, 250, 251] (by decide +kernel) (by decide +kernel)) (goodIn_sub (fun _ h => List.mem_cons_of_mem _ (List.mem_append_left _ (List.mem_append_right _ h))) (by decide +kernel))) (goodIn_sub (fun _ h => List.mem_cons_of_mem _ (List.mem_append_right _ h)) (by decide +kernel))
set_option maxRecDepth 20000 in
theorem gL_holds_X6_ifDropped : GoodIn wsL_holds (wsV RL 80 RX6 yX6_ifDropped wsX6_ifDropped) := goodIn_app (goodIn_of _ (by decide +kernel)) ggL_holds_X6_ifDropped
set_option maxRecDepth 20000 in
theorem ggL_holds_X6_ribbon : GoodIn wsL_holds wsX6_ribbon := goodIn_ca (goodIn_ca (goodIn_r _ [180, 7, 8, 181, 182, 183, 184, 185, 5, 186, 19, 20, 21, 22, 23, 24, 25, 187, 155, 156, 29, 157, 49, 96, 50, 158, 159, 160, 161, 51, 34, 35, 36, 37, 38, 39, 40, 41, 42, 43, 44, 27, 28, 30, 31, 32, 188, 174, 175, 176, 128, 154, 226, 227, 228, 229, 230, 231, 232, 233, 234, 235, 236, 237, 238, 239, 240, 241, 242, 243, 244, 245, 246, 247, 248, 249, 250, 251] (by decide +kernel) (by decide +kernel)) (goodIn_sub (fun _ h => List.mem_cons_of_mem _ (List.mem_append_left _ (List.mem_append_right _ h))) (by decide +kernel))) (goodIn_sub (fun _ h => List.mem_cons_of_mem _ (List.mem_append_right _ h)) (by decide +kernel))
set_option maxRecDepth 20000 in
theorem gL_holds_X6_ribbon : GoodIn wsL_holds (wsV RL 26 RX6 yX6_ribbon wsX6_ribbon) := goodIn_app (goodIn_of _ (by decide +kernel)) ggL_holds_X6_ribbon
set_option maxRecDepth 20000 in
theorem ggL_holds_X6_why : GoodIn wsL_holds wsX6_why := goodIn_ca (goodIn_ca (goodIn_r _ [192, 7, 8, 16, 17, 5, 18, 19, 20, 184, 185, 186, 21, 22, 23, 24, 25, 193, 194, 195, 29, 196, 31, 96, 32, 49, 197, 198, 199, 200, 201, 202, 39, 203, 226, 227, 228, 229, 230, 231, 232, 233, 234, 235, 236, 237, 238, 239, 240, 241, 242, 243, 244, 245, 246, 247, 248, 249, 250, 251] (by decide +kernel) (by decide +kernel)) (goodIn_sub (fun _ h => List.mem_cons_of_mem _ (List.mem_append_left _ (List.mem_append_right _ h))) (by decide +kernel))) (goodIn_sub (fun _ h => List.mem_cons_of_mem _ (List.mem_append_right _ h)) (by decide +kernel))
set_option maxRecDepth 20000 in
theorem gL_holds_X6_why : GoodIn wsL_holds (wsV RL 37 RX6 yX6_why wsX6_why) := goodIn_app (goodIn_of _ (by decide +kernel)) ggL_holds_X6_why
set_option maxRecDepth 20000 in
theorem ggL_holds_X6_noted : GoodIn wsL_holds wsX6_noted := goodIn_ca (goodIn_ca (goodIn_r _ [207, 19, 20, 7, 80, 21, 22, 5, 23, 24, 25, 208, 209, 210, 211, 212, 213, 214, 215, 216, 226, 227, 228, 229, 230, 231, 232, 233, 234, 235, 236, 237, 238, 239, 240, 241, 242, 243, 244, 252, 253, 254, 255] (by decide +kernel) (by decide +kernel)) (goodIn_sub (fun _ h => List.mem_cons_of_mem _ (List.mem_append_left _ (List.mem_append_right _ h))) (by decide +kernel))) (goodIn_sub (fun _ h => List.mem_cons_of_mem _ (List.mem_append_right _ h)) (by decide +kernel))
set_option maxRecDepth 20000 in
theorem gL_holds_X6_noted : GoodIn wsL_holds (wsV RL 23 RX6 yX6_noted wsX6_noted) := goodIn_app (goodIn_of _ (by decide +kernel)) ggL_holds_X6_noted
set_option maxRecDepth 20000 in
theorem ggL_holds_X6_meanHeight : GoodIn wsL_holds wsX6_meanHeight := goodIn_r _ [220, 7, 8, 221, 92, 93, 94, 29, 95, 96, 226, 227, 228, 229, 230, 231, 232, 233, 234, 235, 236, 237, 238, 239, 240, 241, 242, 243, 244, 245, 246, 247, 248, 249, 250, 251] (by decide +kernel) (by decide +kernel)
set_option maxRecDepth 20000 in
theorem gL_holds_X6_meanHeight : GoodIn wsL_holds (wsV RL 83 RX6 yX6_meanHeight wsX6_meanHeight) := goodIn_app (goodIn_of _ (by decide +kernel)) ggL_holds_X6_meanHeight
set_option maxRecDepth 20000 in
theorem ggL_holds_X6_lostShare : GoodIn wsL_holds wsX6_lostShare := goodIn_r _ [225, 7, 76, 77, 75, 226, 227, 228, 229, 230, 231, 232, 233, 234, 235, 236, 237, 238, 239, 240, 241, 242, 243, 244] (by decide +kernel) (by decide +kernel)
set_option maxRecDepth 20000 in
theorem gL_holds_X6_lostShare : GoodIn wsL_holds (wsV RL 89 RX6 yX6_lostShare wsX6_lostShare) := goodIn_app (goodIn_of _ (by decide +kernel)) ggL_holds_X6_lostShare
theorem dL_holds_0 : decode cL_holds 0 = .ok (.iconst 0, 1) := by decide +kernel
theorem dL_holds_1 : decode cL_holds 1 = .ok (.istore_n 1, 1) := by decide +kernel
theorem dL_holds_2 : decode cL_holds 2 = .ok (.iconst 0, 1) := by decide +kernel
theorem dL_holds_3 : decode cL_holds 3 = .ok (.istore_n 2, 1) := by decide +kernel
theorem dL_holds_4 : decode cL_holds 4 = .ok (.iconst 0, 1) := by decide +kernel
theorem dL_holds_5 : decode cL_holds 5 = .ok (.istore_n 3, 1) := by decide +kernel
theorem dL_holds_6 : decode cL_holds 6 = .ok (.iconst 0, 1) := by decide +kernel
theorem dL_holds_7 : decode cL_holds 7 = .ok (.istore 4, 2) := by decide +kernel
theorem dL_holds_9 : decode cL_holds 9 = .ok (.iconst 0, 1) := by decide +kernel
theorem dL_holds_10 : decode cL_holds 10 = .ok (.istore 5, 2) := by decide +kernel
theorem dL_holds_12 : decode cL_holds 12 = .ok (.iconst 1, 1) := by decide +kernel
theorem dL_holds_13 : decode cL_holds 13 = .ok (.istore 6, 2) := by decide +kernel
theorem dL_holds_15 : decode cL_holds 15 = .ok (.iconst 0, 1) := by decide +kernel
theorem dL_holds_16 : decode cL_holds 16 = .ok (.istore 7, 2) := by decide +kernel
theorem dL_holds_18 : decode cL_holds 18 = .ok (.iload 7, 2) := by decide +kernel
theorem dL_holds_20 : decode cL_holds 20 = .ok (.bipush 8, 2) := by decide +kernel
theorem dL_holds_22 : decode cL_holds 22 = .ok (.if_icmp .ge 431, 3) := by decide +kernel
theorem dL_holds_25 : decode cL_holds 25 = .ok (.aload_n 0, 1) := by decide +kernel
theorem dL_holds_26 : decode cL_holds 26 = .ok (.iload 7, 2) := by decide +kernel
theorem dL_holds_28 : decode cL_holds 28 = .ok (.bipush 6, 2) := by decide +kernel
theorem dL_holds_30 : decode cL_holds 30 = .ok (.invokevirtual 19, 3) := by decide +kernel
theorem dL_holds_33 : decode cL_holds 33 = .ok (.istore 8, 2) := by decide +kernel
theorem dL_holds_35 : decode cL_holds 35 = .ok (.bipush 10, 2) := by decide +kernel
theorem dL_holds_37 : decode cL_holds 37 = .ok (.aload_n 0, 1) := by decide +kernel
theorem dL_holds_38 : decode cL_holds 38 = .ok (.iload 7, 2) := by decide +kernel
theorem dL_holds_40 : decode cL_holds 40 = .ok (.iconst 3, 1) := by decide +kernel
theorem dL_holds_41 : decode cL_holds 41 = .ok (.invokevirtual 19, 3) := by decide +kernel
theorem dL_holds_44 : decode cL_holds 44 = .ok (.imul, 1) := by decide +kernel
theorem dL_holds_45 : decode cL_holds 45 = .ok (.istore 9, 2) := by decide +kernel
theorem dL_holds_47 : decode cL_holds 47 = .ok (.iconst 0, 1) := by decide +kernel
theorem dL_holds_48 : decode cL_holds 48 = .ok (.istore 10, 2) := by decide +kernel
theorem dL_holds_50 : decode cL_holds 50 = .ok (.iconst 0, 1) := by decide +kernel
theorem dL_holds_51 : decode cL_holds 51 = .ok (.istore 11, 2) := by decide +kernel
theorem dL_holds_53 : decode cL_holds 53 = .ok (.iconst 0, 1) := by decide +kernel
theorem dL_holds_54 : decode cL_holds 54 = .ok (.istore 12, 2) := by decide +kernel
theorem dL_holds_56 : decode cL_holds 56 = .ok (.iload 12, 2) := by decide +kernel
theorem dL_holds_58 : decode cL_holds 58 = .ok (.bipush 8, 2) := by decide +kernel
theorem dL_holds_60 : decode cL_holds 60 = .ok (.if_icmp .ge 85, 3) := by decide +kernel
theorem dL_holds_63 : decode cL_holds 63 = .ok (.aload_n 0, 1) := by decide +kernel
theorem dL_holds_64 : decode cL_holds 64 = .ok (.iload 12, 2) := by decide +kernel
theorem dL_holds_66 : decode cL_holds 66 = .ok (.bipush 10, 2) := by decide +kernel
theorem dL_holds_68 : decode cL_holds 68 = .ok (.invokevirtual 19, 3) := by decide +kernel
theorem dL_holds_71 : decode cL_holds 71 = .ok (.aload_n 0, 1) := by decide +kernel
theorem dL_holds_72 : decode cL_holds 72 = .ok (.iload 7, 2) := by decide +kernel
theorem dL_holds_74 : decode cL_holds 74 = .ok (.bipush 10, 2) := by decide +kernel
theorem dL_holds_76 : decode cL_holds 76 = .ok (.invokevirtual 19, 3) := by decide +kernel
theorem dL_holds_79 : decode cL_holds 79 = .ok (.if_icmp .ne 7, 3) := by decide +kernel
theorem dL_holds_82 : decode cL_holds 82 = .ok (.iconst 1, 1) := by decide +kernel
theorem dL_holds_83 : decode cL_holds 83 = .ok (.goto 4, 3) := by decide +kernel
theorem dL_holds_86 : decode cL_holds 86 = .ok (.iconst 0, 1) := by decide +kernel
theorem dL_holds_87 : decode cL_holds 87 = .ok (.istore 13, 2) := by decide +kernel
theorem dL_holds_89 : decode cL_holds 89 = .ok (.iload 11, 2) := by decide +kernel
theorem dL_holds_91 : decode cL_holds 91 = .ok (.iload 13, 2) := by decide +kernel
theorem dL_holds_93 : decode cL_holds 93 = .ok (.ifCond .eq 7, 3) := by decide +kernel
theorem dL_holds_96 : decode cL_holds 96 = .ok (.iconst 1, 1) := by decide +kernel
theorem dL_holds_97 : decode cL_holds 97 = .ok (.goto 4, 3) := by decide +kernel
theorem dL_holds_100 : decode cL_holds 100 = .ok (.iconst 0, 1) := by decide +kernel
theorem dL_holds_101 : decode cL_holds 101 = .ok (.iadd, 1) := by decide +kernel
theorem dL_holds_102 : decode cL_holds 102 = .ok (.istore 11, 2) := by decide +kernel
theorem dL_holds_104 : decode cL_holds 104 = .ok (.iload 10, 2) := by decide +kernel
theorem dL_holds_106 : decode cL_holds 106 = .ok (.ifCond .ne 26, 3) := by decide +kernel
theorem dL_holds_109 : decode cL_holds 109 = .ok (.iload 13, 2) := by decide +kernel
theorem dL_holds_111 : decode cL_holds 111 = .ok (.ifCond .eq 25, 3) := by decide +kernel
theorem dL_holds_114 : decode cL_holds 114 = .ok (.aload_n 0, 1) := by decide +kernel
theorem dL_holds_115 : decode cL_holds 115 = .ok (.iload 12, 2) := by decide +kernel
theorem dL_holds_117 : decode cL_holds 117 = .ok (.bipush 6, 2) := by decide +kernel
theorem dL_holds_119 : decode cL_holds 119 = .ok (.invokevirtual 19, 3) := by decide +kernel
theorem dL_holds_122 : decode cL_holds 122 = .ok (.aload_n 0, 1) := by decide +kernel
theorem dL_holds_123 : decode cL_holds 123 = .ok (.iload 12, 2) := by decide +kernel
theorem dL_holds_125 : decode cL_holds 125 = .ok (.iconst 4, 1) := by decide +kernel
theorem dL_holds_126 : decode cL_holds 126 = .ok (.invokevirtual 19, 3) := by decide +kernel
theorem dL_holds_129 : decode cL_holds 129 = .ok (.if_icmp .ne 7, 3) := by decide +kernel
theorem dL_holds_132 : decode cL_holds 132 = .ok (.iconst 1, 1) := by decide +kernel
theorem dL_holds_133 : decode cL_holds 133 = .ok (.goto 4, 3) := by decide +kernel
theorem dL_holds_136 : decode cL_holds 136 = .ok (.iconst 0, 1) := by decide +kernel
theorem dL_holds_137 : decode cL_holds 137 = .ok (.istore 10, 2) := by decide +kernel
theorem dL_holds_139 : decode cL_holds 139 = .ok (.iinc 12 1, 3) := by decide +kernel
theorem dL_holds_142 : decode cL_holds 142 = .ok (.goto (-86), 3) := by decide +kernel
theorem dL_holds_145 : decode cL_holds 145 = .ok (.iload_n 1, 1) := by decide +kernel
theorem dL_holds_146 : decode cL_holds 146 = .ok (.aload_n 0, 1) := by decide +kernel
theorem dL_holds_147 : decode cL_holds 147 = .ok (.iload 7, 2) := by decide +kernel
theorem dL_holds_149 : decode cL_holds 149 = .ok (.iconst 0, 1) := by decide +kernel
theorem dL_holds_150 : decode cL_holds 150 = .ok (.invokevirtual 19, 3) := by decide +kernel
theorem dL_holds_153 : decode cL_holds 153 = .ok (.iadd, 1) := by decide +kernel
theorem dL_holds_154 : decode cL_holds 154 = .ok (.istore_n 1, 1) := by decide +kernel
theorem dL_holds_155 : decode cL_holds 155 = .ok (.iload_n 2, 1) := by decide +kernel
theorem dL_holds_156 : decode cL_holds 156 = .ok (.iload 8, 2) := by decide +kernel
theorem dL_holds_158 : decode cL_holds 158 = .ok (.iadd, 1) := by decide +kernel
theorem dL_holds_159 : decode cL_holds 159 = .ok (.istore_n 2, 1) := by decide +kernel
theorem dL_holds_160 : decode cL_holds 160 = .ok (.iload_n 3, 1) := by decide +kernel
theorem dL_holds_161 : decode cL_holds 161 = .ok (.iload 8, 2) := by decide +kernel
theorem dL_holds_163 : decode cL_holds 163 = .ok (.ifCond .ne 7, 3) := by decide +kernel
theorem dL_holds_166 : decode cL_holds 166 = .ok (.iconst 1, 1) := by decide +kernel
theorem dL_holds_167 : decode cL_holds 167 = .ok (.goto 4, 3) := by decide +kernel
theorem dL_holds_170 : decode cL_holds 170 = .ok (.iconst 0, 1) := by decide +kernel
theorem dL_holds_171 : decode cL_holds 171 = .ok (.iadd, 1) := by decide +kernel
theorem dL_holds_172 : decode cL_holds 172 = .ok (.istore_n 3, 1) := by decide +kernel
theorem dL_holds_173 : decode cL_holds 173 = .ok (.iload 5, 2) := by decide +kernel
theorem dL_holds_175 : decode cL_holds 175 = .ok (.aload_n 0, 1) := by decide +kernel
theorem dL_holds_176 : decode cL_holds 176 = .ok (.iload 7, 2) := by decide +kernel
theorem dL_holds_178 : decode cL_holds 178 = .ok (.bipush 10, 2) := by decide +kernel
theorem dL_holds_180 : decode cL_holds 180 = .ok (.invokevirtual 19, 3) := by decide +kernel
theorem dL_holds_183 : decode cL_holds 183 = .ok (.iload 7, 2) := by decide +kernel
theorem dL_holds_185 : decode cL_holds 185 = .ok (.if_icmp .ne 7, 3) := by decide +kernel
theorem dL_holds_188 : decode cL_holds 188 = .ok (.iconst 1, 1) := by decide +kernel
theorem dL_holds_189 : decode cL_holds 189 = .ok (.goto 4, 3) := by decide +kernel
theorem dL_holds_192 : decode cL_holds 192 = .ok (.iconst 0, 1) := by decide +kernel
theorem dL_holds_193 : decode cL_holds 193 = .ok (.iadd, 1) := by decide +kernel
theorem dL_holds_194 : decode cL_holds 194 = .ok (.istore 5, 2) := by decide +kernel
theorem dL_holds_196 : decode cL_holds 196 = .ok (.iload 6, 2) := by decide +kernel
theorem dL_holds_198 : decode cL_holds 198 = .ok (.ifCond .eq 136, 3) := by decide +kernel
theorem dL_holds_201 : decode cL_holds 201 = .ok (.iload 10, 2) := by decide +kernel
theorem dL_holds_203 : decode cL_holds 203 = .ok (.ifCond .eq 131, 3) := by decide +kernel
theorem dL_holds_206 : decode cL_holds 206 = .ok (.iload 11, 2) := by decide +kernel
theorem dL_holds_208 : decode cL_holds 208 = .ok (.aload_n 0, 1) := by decide +kernel
theorem dL_holds_209 : decode cL_holds 209 = .ok (.iload 7, 2) := by decide +kernel
theorem dL_holds_211 : decode cL_holds 211 = .ok (.bipush 11, 2) := by decide +kernel
theorem dL_holds_213 : decode cL_holds 213 = .ok (.invokevirtual 19, 3) := by decide +kernel
theorem dL_holds_216 : decode cL_holds 216 = .ok (.if_icmp .ne 118, 3) := by decide +kernel
theorem dL_holds_219 : decode cL_holds 219 = .ok (.aload_n 0, 1) := by decide +kernel
theorem dL_holds_220 : decode cL_holds 220 = .ok (.iload 7, 2) := by decide +kernel
theorem dL_holds_222 : decode cL_holds 222 = .ok (.iconst 5, 1) := by decide +kernel
theorem dL_holds_223 : decode cL_holds 223 = .ok (.invokevirtual 19, 3) := by decide +kernel
theorem dL_holds_226 : decode cL_holds 226 = .ok (.iload 8, 2) := by decide +kernel
theorem dL_holds_228 : decode cL_holds 228 = .ok (.if_icmp .ne 106, 3) := by decide +kernel
theorem dL_holds_231 : decode cL_holds 231 = .ok (.iload 8, 2) := by decide +kernel
theorem dL_holds_233 : decode cL_holds 233 = .ok (.ifCond .lt 101, 3) := by decide +kernel
theorem dL_holds_236 : decode cL_holds 236 = .ok (.iload 8, 2) := by decide +kernel
theorem dL_holds_238 : decode cL_holds 238 = .ok (.aload_n 0, 1) := by decide +kernel
theorem dL_holds_239 : decode cL_holds 239 = .ok (.iload 7, 2) := by decide +kernel
theorem dL_holds_241 : decode cL_holds 241 = .ok (.iconst 4, 1) := by decide +kernel
theorem dL_holds_242 : decode cL_holds 242 = .ok (.invokevirtual 19, 3) := by decide +kernel
theorem dL_holds_245 : decode cL_holds 245 = .ok (.if_icmp .gt 89, 3) := by decide +kernel
theorem dL_holds_248 : decode cL_holds 248 = .ok (.aload_n 0, 1) := by decide +kernel
theorem dL_holds_249 : decode cL_holds 249 = .ok (.iload 7, 2) := by decide +kernel
theorem dL_holds_251 : decode cL_holds 251 = .ok (.iconst 4, 1) := by decide +kernel
theorem dL_holds_252 : decode cL_holds 252 = .ok (.invokevirtual 19, 3) := by decide +kernel
theorem dL_holds_255 : decode cL_holds 255 = .ok (.iload 9, 2) := by decide +kernel
theorem dL_holds_257 : decode cL_holds 257 = .ok (.ifCond .ge 7, 3) := by decide +kernel
theorem dL_holds_260 : decode cL_holds 260 = .ok (.iconst 0, 1) := by decide +kernel
theorem dL_holds_261 : decode cL_holds 261 = .ok (.goto 19, 3) := by decide +kernel
theorem dL_holds_264 : decode cL_holds 264 = .ok (.iload 9, 2) := by decide +kernel
theorem dL_holds_266 : decode cL_holds 266 = .ok (.sipush 999, 3) := by decide +kernel
theorem dL_holds_269 : decode cL_holds 269 = .ok (.if_icmp .le 9, 3) := by decide +kernel
theorem dL_holds_272 : decode cL_holds 272 = .ok (.sipush 999, 3) := by decide +kernel
theorem dL_holds_275 : decode cL_holds 275 = .ok (.goto 5, 3) := by decide +kernel
theorem dL_holds_278 : decode cL_holds 278 = .ok (.iload 9, 2) := by decide +kernel
theorem dL_holds_280 : decode cL_holds 280 = .ok (.if_icmp .ne 54, 3) := by decide +kernel
theorem dL_holds_283 : decode cL_holds 283 = .ok (.aload_n 0, 1) := by decide +kernel
theorem dL_holds_284 : decode cL_holds 284 = .ok (.iload 7, 2) := by decide +kernel
theorem dL_holds_286 : decode cL_holds 286 = .ok (.iconst 3, 1) := by decide +kernel
theorem dL_holds_287 : decode cL_holds 287 = .ok (.invokevirtual 19, 3) := by decide +kernel
theorem dL_holds_290 : decode cL_holds 290 = .ok (.aload_n 0, 1) := by decide +kernel
theorem dL_holds_291 : decode cL_holds 291 = .ok (.iload 7, 2) := by decide +kernel
theorem dL_holds_293 : decode cL_holds 293 = .ok (.iconst 0, 1) := by decide +kernel
theorem dL_holds_294 : decode cL_holds 294 = .ok (.invokevirtual 19, 3) := by decide +kernel
theorem dL_holds_297 : decode cL_holds 297 = .ok (.bipush 10, 2) := by decide +kernel
theorem dL_holds_299 : decode cL_holds 299 = .ok (.isub, 1) := by decide +kernel
theorem dL_holds_300 : decode cL_holds 300 = .ok (.iconst 5, 1) := by decide +kernel
theorem dL_holds_301 : decode cL_holds 301 = .ok (.aload_n 0, 1) := by decide +kernel
theorem dL_holds_302 : decode cL_holds 302 = .ok (.iload 7, 2) := by decide +kernel
theorem dL_holds_304 : decode cL_holds 304 = .ok (.iconst 1, 1) := by decide +kernel
theorem dL_holds_305 : decode cL_holds 305 = .ok (.invokevirtual 19, 3) := by decide +kernel
theorem dL_holds_308 : decode cL_holds 308 = .ok (.imul, 1) := by decide +kernel
theorem dL_holds_309 : decode cL_holds 309 = .ok (.isub, 1) := by decide +kernel
theorem dL_holds_310 : decode cL_holds 310 = .ok (.if_icmp .ne 24, 3) := by decide +kernel
theorem dL_holds_313 : decode cL_holds 313 = .ok (.iload 8, 2) := by decide +kernel
theorem dL_holds_315 : decode cL_holds 315 = .ok (.aload_n 0, 1) := by decide +kernel
theorem dL_holds_316 : decode cL_holds 316 = .ok (.aload_n 0, 1) := by decide +kernel
theorem dL_holds_317 : decode cL_holds 317 = .ok (.bipush 10, 2) := by decide +kernel
theorem dL_holds_319 : decode cL_holds 319 = .ok (.invokevirtual 13, 3) := by decide +kernel
theorem dL_holds_322 : decode cL_holds 322 = .ok (.bipush 6, 2) := by decide +kernel
theorem dL_holds_324 : decode cL_holds 324 = .ok (.invokevirtual 19, 3) := by decide +kernel
theorem dL_holds_327 : decode cL_holds 327 = .ok (.if_icmp .gt 7, 3) := by decide +kernel
theorem dL_holds_330 : decode cL_holds 330 = .ok (.iconst 1, 1) := by decide +kernel
theorem dL_holds_331 : decode cL_holds 331 = .ok (.goto 4, 3) := by decide +kernel
theorem dL_holds_334 : decode cL_holds 334 = .ok (.iconst 0, 1) := by decide +kernel
theorem dL_holds_335 : decode cL_holds 335 = .ok (.istore 6, 2) := by decide +kernel
theorem dL_holds_337 : decode cL_holds 337 = .ok (.iload 6, 2) := by decide +kernel
theorem dL_holds_339 : decode cL_holds 339 = .ok (.ifCond .eq 105, 3) := by decide +kernel
theorem dL_holds_342 : decode cL_holds 342 = .ok (.aload_n 0, 1) := by decide +kernel
theorem dL_holds_343 : decode cL_holds 343 = .ok (.iload 7, 2) := by decide +kernel
theorem dL_holds_345 : decode cL_holds 345 = .ok (.bipush 7, 2) := by decide +kernel
theorem dL_holds_347 : decode cL_holds 347 = .ok (.invokevirtual 19, 3) := by decide +kernel
theorem dL_holds_350 : decode cL_holds 350 = .ok (.ifCond .eq 14, 3) := by decide +kernel
theorem dL_holds_353 : decode cL_holds 353 = .ok (.aload_n 0, 1) := by decide +kernel
theorem dL_holds_354 : decode cL_holds 354 = .ok (.iload 7, 2) := by decide +kernel
theorem dL_holds_356 : decode cL_holds 356 = .ok (.bipush 8, 2) := by decide +kernel
theorem dL_holds_358 : decode cL_holds 358 = .ok (.invokevirtual 19, 3) := by decide +kernel
theorem dL_holds_361 : decode cL_holds 361 = .ok (.ifCond .ne 16, 3) := by decide +kernel
theorem dL_holds_364 : decode cL_holds 364 = .ok (.aload_n 0, 1) := by decide +kernel
theorem dL_holds_365 : decode cL_holds 365 = .ok (.iload 7, 2) := by decide +kernel
theorem dL_holds_367 : decode cL_holds 367 = .ok (.bipush 9, 2) := by decide +kernel
theorem dL_holds_369 : decode cL_holds 369 = .ok (.invokevirtual 19, 3) := by decide +kernel
theorem dL_holds_372 : decode cL_holds 372 = .ok (.iload 8, 2) := by decide +kernel
theorem dL_holds_374 : decode cL_holds 374 = .ok (.if_icmp .ne 70, 3) := by decide +kernel
theorem dL_holds_377 : decode cL_holds 377 = .ok (.aload_n 0, 1) := by decide +kernel
theorem dL_holds_378 : decode cL_holds 378 = .ok (.iload 7, 2) := by decide +kernel
theorem dL_holds_380 : decode cL_holds 380 = .ok (.invokevirtual 77, 3) := by decide +kernel
theorem dL_holds_383 : decode cL_holds 383 = .ok (.ifCond .ne 7, 3) := by decide +kernel
theorem dL_holds_386 : decode cL_holds 386 = .ok (.iconst 1, 1) := by decide +kernel
theorem dL_holds_387 : decode cL_holds 387 = .ok (.goto 4, 3) := by decide +kernel
theorem dL_holds_390 : decode cL_holds 390 = .ok (.iconst 0, 1) := by decide +kernel
theorem dL_holds_391 : decode cL_holds 391 = .ok (.iload 8, 2) := by decide +kernel
theorem dL_holds_393 : decode cL_holds 393 = .ok (.ifCond .ne 7, 3) := by decide +kernel
theorem dL_holds_396 : decode cL_holds 396 = .ok (.iconst 1, 1) := by decide +kernel
theorem dL_holds_397 : decode cL_holds 397 = .ok (.goto 4, 3) := by decide +kernel
theorem dL_holds_400 : decode cL_holds 400 = .ok (.iconst 0, 1) := by decide +kernel
theorem dL_holds_401 : decode cL_holds 401 = .ok (.if_icmp .ne 43, 3) := by decide +kernel
theorem dL_holds_404 : decode cL_holds 404 = .ok (.aload_n 0, 1) := by decide +kernel
theorem dL_holds_405 : decode cL_holds 405 = .ok (.iload 7, 2) := by decide +kernel
theorem dL_holds_407 : decode cL_holds 407 = .ok (.iconst 1, 1) := by decide +kernel
theorem dL_holds_408 : decode cL_holds 408 = .ok (.invokevirtual 80, 3) := by decide +kernel
theorem dL_holds_411 : decode cL_holds 411 = .ok (.sipush (-1000), 3) := by decide +kernel
theorem dL_holds_414 : decode cL_holds 414 = .ok (.if_icmp .ne 7, 3) := by decide +kernel
theorem dL_holds_417 : decode cL_holds 417 = .ok (.iconst 1, 1) := by decide +kernel
theorem dL_holds_418 : decode cL_holds 418 = .ok (.goto 4, 3) := by decide +kernel
theorem dL_holds_421 : decode cL_holds 421 = .ok (.iconst 0, 1) := by decide +kernel
theorem dL_holds_422 : decode cL_holds 422 = .ok (.aload_n 0, 1) := by decide +kernel
theorem dL_holds_423 : decode cL_holds 423 = .ok (.iload 7, 2) := by decide +kernel
theorem dL_holds_425 : decode cL_holds 425 = .ok (.iconst 1, 1) := by decide +kernel
theorem dL_holds_426 : decode cL_holds 426 = .ok (.invokevirtual 19, 3) := by decide +kernel
theorem dL_holds_429 : decode cL_holds 429 = .ok (.ifCond .ne 7, 3) := by decide +kernel
theorem dL_holds_432 : decode cL_holds 432 = .ok (.iconst 1, 1) := by decide +kernel
theorem dL_holds_433 : decode cL_holds 433 = .ok (.goto 4, 3) := by decide +kernel
theorem dL_holds_436 : decode cL_holds 436 = .ok (.iconst 0, 1) := by decide +kernel
theorem dL_holds_437 : decode cL_holds 437 = .ok (.if_icmp .ne 7, 3) := by decide +kernel
theorem dL_holds_440 : decode cL_holds 440 = .ok (.iconst 1, 1) := by decide +kernel
theorem dL_holds_441 : decode cL_holds 441 = .ok (.goto 4, 3) := by decide +kernel
theorem dL_holds_444 : decode cL_holds 444 = .ok (.iconst 0, 1) := by decide +kernel
theorem dL_holds_445 : decode cL_holds 445 = .ok (.istore 6, 2) := by decide +kernel
theorem dL_holds_447 : decode cL_holds 447 = .ok (.iinc 7 1, 3) := by decide +kernel
theorem dL_holds_450 : decode cL_holds 450 = .ok (.goto (-432), 3) := by decide +kernel
theorem dL_holds_453 : decode cL_holds 453 = .ok (.iconst 0, 1) := by decide +kernel
theorem dL_holds_454 : decode cL_holds 454 = .ok (.istore 7, 2) := by decide +kernel
theorem dL_holds_456 : decode cL_holds 456 = .ok (.iload 7, 2) := by decide +kernel
theorem dL_holds_458 : decode cL_holds 458 = .ok (.bipush 7, 2) := by decide +kernel
theorem dL_holds_460 : decode cL_holds 460 = .ok (.if_icmp .ge 189, 3) := by decide +kernel
theorem dL_holds_463 : decode cL_holds 463 = .ok (.aload_n 0, 1) := by decide +kernel
theorem dL_holds_464 : decode cL_holds 464 = .ok (.iload 7, 2) := by decide +kernel
theorem dL_holds_466 : decode cL_holds 466 = .ok (.bipush 6, 2) := by decide +kernel
theorem dL_holds_468 : decode cL_holds 468 = .ok (.invokevirtual 19, 3) := by decide +kernel
theorem dL_holds_471 : decode cL_holds 471 = .ok (.aload_n 0, 1) := by decide +kernel
theorem dL_holds_472 : decode cL_holds 472 = .ok (.iload 7, 2) := by decide +kernel
theorem dL_holds_474 : decode cL_holds 474 = .ok (.iconst 1, 1) := by decide +kernel
theorem dL_holds_475 : decode cL_holds 475 = .ok (.iadd, 1) := by decide +kernel
theorem dL_holds_476 : decode cL_holds 476 = .ok (.bipush 6, 2) := by decide +kernel
theorem dL_holds_478 : decode cL_holds 478 = .ok (.invokevirtual 19, 3) := by decide +kernel
theorem dL_holds_481 : decode cL_holds 481 = .ok (.isub, 1) := by decide +kernel
theorem dL_holds_482 : decode cL_holds 482 = .ok (.istore 8, 2) := by decide +kernel
theorem dL_holds_484 : decode cL_holds 484 = .ok (.aload_n 0, 1) := by decide +kernel
theorem dL_holds_485 : decode cL_holds 485 = .ok (.iload 7, 2) := by decide +kernel
theorem dL_holds_487 : decode cL_holds 487 = .ok (.iconst 0, 1) := by decide +kernel
theorem dL_holds_488 : decode cL_holds 488 = .ok (.invokevirtual 26, 3) := by decide +kernel
theorem dL_holds_491 : decode cL_holds 491 = .ok (.iconst 1, 1) := by decide +kernel
theorem dL_holds_492 : decode cL_holds 492 = .ok (.if_icmp .ne 7, 3) := by decide +kernel
theorem dL_holds_495 : decode cL_holds 495 = .ok (.iconst 1, 1) := by decide +kernel
theorem dL_holds_496 : decode cL_holds 496 = .ok (.goto 4, 3) := by decide +kernel
theorem dL_holds_499 : decode cL_holds 499 = .ok (.iconst 0, 1) := by decide +kernel
theorem dL_holds_500 : decode cL_holds 500 = .ok (.istore 9, 2) := by decide +kernel
theorem dL_holds_502 : decode cL_holds 502 = .ok (.iload 4, 2) := by decide +kernel
theorem dL_holds_504 : decode cL_holds 504 = .ok (.iload 9, 2) := by decide +kernel
theorem dL_holds_506 : decode cL_holds 506 = .ok (.ifCond .eq 7, 3) := by decide +kernel
theorem dL_holds_509 : decode cL_holds 509 = .ok (.iconst 1, 1) := by decide +kernel
theorem dL_holds_510 : decode cL_holds 510 = .ok (.goto 4, 3) := by decide +kernel
theorem dL_holds_513 : decode cL_holds 513 = .ok (.iconst 0, 1) := by decide +kernel
theorem dL_holds_514 : decode cL_holds 514 = .ok (.iadd, 1) := by decide +kernel
theorem dL_holds_515 : decode cL_holds 515 = .ok (.istore 4, 2) := by decide +kernel
theorem dL_holds_517 : decode cL_holds 517 = .ok (.iload 6, 2) := by decide +kernel
theorem dL_holds_519 : decode cL_holds 519 = .ok (.ifCond .eq 121, 3) := by decide +kernel
theorem dL_holds_522 : decode cL_holds 522 = .ok (.iload 9, 2) := by decide +kernel
theorem dL_holds_524 : decode cL_holds 524 = .ok (.ifCond .eq 31, 3) := by decide +kernel
theorem dL_holds_527 : decode cL_holds 527 = .ok (.iload 8, 2) := by decide +kernel
theorem dL_holds_529 : decode cL_holds 529 = .ok (.aload_n 0, 1) := by decide +kernel
theorem dL_holds_530 : decode cL_holds 530 = .ok (.iload 7, 2) := by decide +kernel
theorem dL_holds_532 : decode cL_holds 532 = .ok (.iconst 1, 1) := by decide +kernel
theorem dL_holds_533 : decode cL_holds 533 = .ok (.invokevirtual 26, 3) := by decide +kernel
theorem dL_holds_536 : decode cL_holds 536 = .ok (.if_icmp .gt 104, 3) := by decide +kernel
theorem dL_holds_539 : decode cL_holds 539 = .ok (.iload 8, 2) := by decide +kernel
theorem dL_holds_541 : decode cL_holds 541 = .ok (.ineg, 1) := by decide +kernel
theorem dL_holds_542 : decode cL_holds 542 = .ok (.aload_n 0, 1) := by decide +kernel
theorem dL_holds_543 : decode cL_holds 543 = .ok (.iload 7, 2) := by decide +kernel
theorem dL_holds_545 : decode cL_holds 545 = .ok (.iconst 1, 1) := by decide +kernel
theorem dL_holds_546 : decode cL_holds 546 = .ok (.invokevirtual 26, 3) := by decide +kernel
theorem dL_holds_549 : decode cL_holds 549 = .ok (.if_icmp .gt 91, 3) := by decide +kernel
theorem dL_holds_552 : decode cL_holds 552 = .ok (.goto 13, 3) := by decide +kernel
theorem dL_holds_555 : decode cL_holds 555 = .ok (.aload_n 0, 1) := by decide +kernel
theorem dL_holds_556 : decode cL_holds 556 = .ok (.iload 7, 2) := by decide +kernel
theorem dL_holds_558 : decode cL_holds 558 = .ok (.iconst 3, 1) := by decide +kernel
theorem dL_holds_559 : decode cL_holds 559 = .ok (.invokevirtual 26, 3) := by decide +kernel
theorem dL_holds_562 : decode cL_holds 562 = .ok (.ifCond .ne 78, 3) := by decide +kernel
theorem dL_holds_565 : decode cL_holds 565 = .ok (.aload_n 0, 1) := by decide +kernel
theorem dL_holds_566 : decode cL_holds 566 = .ok (.iload 7, 2) := by decide +kernel
theorem dL_holds_568 : decode cL_holds 568 = .ok (.iconst 3, 1) := by decide +kernel
theorem dL_holds_569 : decode cL_holds 569 = .ok (.invokevirtual 26, 3) := by decide +kernel
theorem dL_holds_572 : decode cL_holds 572 = .ok (.ifCond .lt 68, 3) := by decide +kernel
theorem dL_holds_575 : decode cL_holds 575 = .ok (.aload_n 0, 1) := by decide +kernel
theorem dL_holds_576 : decode cL_holds 576 = .ok (.iload 7, 2) := by decide +kernel
theorem dL_holds_578 : decode cL_holds 578 = .ok (.iconst 4, 1) := by decide +kernel
theorem dL_holds_579 : decode cL_holds 579 = .ok (.invokevirtual 26, 3) := by decide +kernel
theorem dL_holds_582 : decode cL_holds 582 = .ok (.iconst 1, 1) := by decide +kernel
theorem dL_holds_583 : decode cL_holds 583 = .ok (.if_icmp .ne 7, 3) := by decide +kernel
theorem dL_holds_586 : decode cL_holds 586 = .ok (.iconst 1, 1) := by decide +kernel
theorem dL_holds_587 : decode cL_holds 587 = .ok (.goto 4, 3) := by decide +kernel
theorem dL_holds_590 : decode cL_holds 590 = .ok (.iconst 0, 1) := by decide +kernel
theorem dL_holds_591 : decode cL_holds 591 = .ok (.aload_n 0, 1) := by decide +kernel
theorem dL_holds_592 : decode cL_holds 592 = .ok (.iload 7, 2) := by decide +kernel
theorem dL_holds_594 : decode cL_holds 594 = .ok (.iconst 3, 1) := by decide +kernel
theorem dL_holds_595 : decode cL_holds 595 = .ok (.invokevirtual 26, 3) := by decide +kernel
theorem dL_holds_598 : decode cL_holds 598 = .ok (.aload_n 0, 1) := by decide +kernel
theorem dL_holds_599 : decode cL_holds 599 = .ok (.iload 7, 2) := by decide +kernel
theorem dL_holds_601 : decode cL_holds 601 = .ok (.iconst 2, 1) := by decide +kernel
theorem dL_holds_602 : decode cL_holds 602 = .ok (.invokevirtual 26, 3) := by decide +kernel
theorem dL_holds_605 : decode cL_holds 605 = .ok (.if_icmp .le 7, 3) := by decide +kernel
theorem dL_holds_608 : decode cL_holds 608 = .ok (.iconst 1, 1) := by decide +kernel
theorem dL_holds_609 : decode cL_holds 609 = .ok (.goto 4, 3) := by decide +kernel
theorem dL_holds_612 : decode cL_holds 612 = .ok (.iconst 0, 1) := by decide +kernel
theorem dL_holds_613 : decode cL_holds 613 = .ok (.if_icmp .ne 27, 3) := by decide +kernel
theorem dL_holds_616 : decode cL_holds 616 = .ok (.aload_n 0, 1) := by decide +kernel
theorem dL_holds_617 : decode cL_holds 617 = .ok (.iload 7, 2) := by decide +kernel
theorem dL_holds_619 : decode cL_holds 619 = .ok (.iconst 5, 1) := by decide +kernel
theorem dL_holds_620 : decode cL_holds 620 = .ok (.invokevirtual 37, 3) := by decide +kernel
theorem dL_holds_623 : decode cL_holds 623 = .ok (.ifCond .ne 7, 3) := by decide +kernel
theorem dL_holds_626 : decode cL_holds 626 = .ok (.iconst 1, 1) := by decide +kernel
theorem dL_holds_627 : decode cL_holds 627 = .ok (.goto 4, 3) := by decide +kernel
theorem dL_holds_630 : decode cL_holds 630 = .ok (.iconst 0, 1) := by decide +kernel
theorem dL_holds_631 : decode cL_holds 631 = .ok (.iload 9, 2) := by decide +kernel
theorem dL_holds_633 : decode cL_holds 633 = .ok (.if_icmp .ne 7, 3) := by decide +kernel
theorem dL_holds_636 : decode cL_holds 636 = .ok (.iconst 1, 1) := by decide +kernel
theorem dL_holds_637 : decode cL_holds 637 = .ok (.goto 4, 3) := by decide +kernel
theorem dL_holds_640 : decode cL_holds 640 = .ok (.iconst 0, 1) := by decide +kernel
theorem dL_holds_641 : decode cL_holds 641 = .ok (.istore 6, 2) := by decide +kernel
theorem dL_holds_643 : decode cL_holds 643 = .ok (.iinc 7 1, 3) := by decide +kernel
theorem dL_holds_646 : decode cL_holds 646 = .ok (.goto (-190), 3) := by decide +kernel
theorem dL_holds_649 : decode cL_holds 649 = .ok (.iconst 1, 1) := by decide +kernel
theorem dL_holds_650 : decode cL_holds 650 = .ok (.istore 7, 2) := by decide +kernel
theorem dL_holds_652 : decode cL_holds 652 = .ok (.iload 7, 2) := by decide +kernel
theorem dL_holds_654 : decode cL_holds 654 = .ok (.aload_n 0, 1) := by decide +kernel
theorem dL_holds_655 : decode cL_holds 655 = .ok (.bipush 13, 2) := by decide +kernel
theorem dL_holds_657 : decode cL_holds 657 = .ok (.invokevirtual 13, 3) := by decide +kernel
theorem dL_holds_660 : decode cL_holds 660 = .ok (.if_icmp .ge 78, 3) := by decide +kernel
theorem dL_holds_663 : decode cL_holds 663 = .ok (.iload 6, 2) := by decide +kernel
theorem dL_holds_665 : decode cL_holds 665 = .ok (.ifCond .eq 64, 3) := by decide +kernel
theorem dL_holds_668 : decode cL_holds 668 = .ok (.aload_n 0, 1) := by decide +kernel
theorem dL_holds_669 : decode cL_holds 669 = .ok (.iload 7, 2) := by decide +kernel
theorem dL_holds_671 : decode cL_holds 671 = .ok (.iconst 1, 1) := by decide +kernel
theorem dL_holds_672 : decode cL_holds 672 = .ok (.isub, 1) := by decide +kernel
theorem dL_holds_673 : decode cL_holds 673 = .ok (.iconst 1, 1) := by decide +kernel
theorem dL_holds_674 : decode cL_holds 674 = .ok (.invokevirtual 23, 3) := by decide +kernel
theorem dL_holds_677 : decode cL_holds 677 = .ok (.aload_n 0, 1) := by decide +kernel
theorem dL_holds_678 : decode cL_holds 678 = .ok (.iload 7, 2) := by decide +kernel
theorem dL_holds_680 : decode cL_holds 680 = .ok (.iconst 1, 1) := by decide +kernel
theorem dL_holds_681 : decode cL_holds 681 = .ok (.invokevirtual 23, 3) := by decide +kernel
theorem dL_holds_684 : decode cL_holds 684 = .ok (.if_icmp .gt 45, 3) := by decide +kernel
theorem dL_holds_687 : decode cL_holds 687 = .ok (.aload_n 0, 1) := by decide +kernel
theorem dL_holds_688 : decode cL_holds 688 = .ok (.iload 7, 2) := by decide +kernel
theorem dL_holds_690 : decode cL_holds 690 = .ok (.iconst 1, 1) := by decide +kernel
theorem dL_holds_691 : decode cL_holds 691 = .ok (.isub, 1) := by decide +kernel
theorem dL_holds_692 : decode cL_holds 692 = .ok (.iconst 1, 1) := by decide +kernel
theorem dL_holds_693 : decode cL_holds 693 = .ok (.invokevirtual 23, 3) := by decide +kernel
theorem dL_holds_696 : decode cL_holds 696 = .ok (.aload_n 0, 1) := by decide +kernel
theorem dL_holds_697 : decode cL_holds 697 = .ok (.iload 7, 2) := by decide +kernel
theorem dL_holds_699 : decode cL_holds 699 = .ok (.iconst 1, 1) := by decide +kernel
theorem dL_holds_700 : decode cL_holds 700 = .ok (.invokevirtual 23, 3) := by decide +kernel
theorem dL_holds_703 : decode cL_holds 703 = .ok (.if_icmp .lt 22, 3) := by decide +kernel
theorem dL_holds_706 : decode cL_holds 706 = .ok (.aload_n 0, 1) := by decide +kernel
theorem dL_holds_707 : decode cL_holds 707 = .ok (.iload 7, 2) := by decide +kernel
theorem dL_holds_709 : decode cL_holds 709 = .ok (.iconst 1, 1) := by decide +kernel
theorem dL_holds_710 : decode cL_holds 710 = .ok (.isub, 1) := by decide +kernel
theorem dL_holds_711 : decode cL_holds 711 = .ok (.iconst 0, 1) := by decide +kernel
theorem dL_holds_712 : decode cL_holds 712 = .ok (.invokevirtual 23, 3) := by decide +kernel
theorem dL_holds_715 : decode cL_holds 715 = .ok (.aload_n 0, 1) := by decide +kernel
theorem dL_holds_716 : decode cL_holds 716 = .ok (.iload 7, 2) := by decide +kernel
theorem dL_holds_718 : decode cL_holds 718 = .ok (.iconst 0, 1) := by decide +kernel
theorem dL_holds_719 : decode cL_holds 719 = .ok (.invokevirtual 23, 3) := by decide +kernel
theorem dL_holds_722 : decode cL_holds 722 = .ok (.if_icmp .eq 7, 3) := by decide +kernel
theorem dL_holds_725 : decode cL_holds 725 = .ok (.iconst 1, 1) := by decide +kernel
theorem dL_holds_726 : decode cL_holds 726 = .ok (.goto 4, 3) := by decide +kernel
theorem dL_holds_729 : decode cL_holds 729 = .ok (.iconst 0, 1) := by decide +kernel
theorem dL_holds_730 : decode cL_holds 730 = .ok (.istore 6, 2) := by decide +kernel
theorem dL_holds_732 : decode cL_holds 732 = .ok (.iinc 7 1, 3) := by decide +kernel
theorem dL_holds_735 : decode cL_holds 735 = .ok (.goto (-83), 3) := by decide +kernel
theorem dL_holds_738 : decode cL_holds 738 = .ok (.iload 6, 2) := by decide +kernel
theorem dL_holds_740 : decode cL_holds 740 = .ok (.ifCond .eq 134, 3) := by decide +kernel
theorem dL_holds_743 : decode cL_holds 743 = .ok (.iload_n 1, 1) := by decide +kernel
theorem dL_holds_744 : decode cL_holds 744 = .ok (.aload_n 0, 1) := by decide +kernel
theorem dL_holds_745 : decode cL_holds 745 = .ok (.iconst 1, 1) := by decide +kernel
theorem dL_holds_746 : decode cL_holds 746 = .ok (.invokevirtual 13, 3) := by decide +kernel
theorem dL_holds_749 : decode cL_holds 749 = .ok (.if_icmp .ne 125, 3) := by decide +kernel
theorem dL_holds_752 : decode cL_holds 752 = .ok (.iload_n 1, 1) := by decide +kernel
theorem dL_holds_753 : decode cL_holds 753 = .ok (.aload_n 0, 1) := by decide +kernel
theorem dL_holds_754 : decode cL_holds 754 = .ok (.iconst 2, 1) := by decide +kernel
theorem dL_holds_755 : decode cL_holds 755 = .ok (.invokevirtual 13, 3) := by decide +kernel
theorem dL_holds_758 : decode cL_holds 758 = .ok (.if_icmp .ne 116, 3) := by decide +kernel
theorem dL_holds_761 : decode cL_holds 761 = .ok (.iload_n 2, 1) := by decide +kernel
theorem dL_holds_762 : decode cL_holds 762 = .ok (.aload_n 0, 1) := by decide +kernel
theorem dL_holds_763 : decode cL_holds 763 = .ok (.bipush 9, 2) := by decide +kernel
theorem dL_holds_765 : decode cL_holds 765 = .ok (.invokevirtual 13, 3) := by decide +kernel
theorem dL_holds_768 : decode cL_holds 768 = .ok (.if_icmp .ne 106, 3) := by decide +kernel
theorem dL_holds_771 : decode cL_holds 771 = .ok (.iload_n 3, 1) := by decide +kernel
theorem dL_holds_772 : decode cL_holds 772 = .ok (.aload_n 0, 1) := by decide +kernel
theorem dL_holds_773 : decode cL_holds 773 = .ok (.bipush 11, 2) := by decide +kernel
theorem dL_holds_775 : decode cL_holds 775 = .ok (.invokevirtual 13, 3) := by decide +kernel
theorem dL_holds_778 : decode cL_holds 778 = .ok (.if_icmp .ne 96, 3) := by decide +kernel
theorem dL_holds_781 : decode cL_holds 781 = .ok (.iload 4, 2) := by decide +kernel
theorem dL_holds_783 : decode cL_holds 783 = .ok (.aload_n 0, 1) := by decide +kernel
theorem dL_holds_784 : decode cL_holds 784 = .ok (.bipush 6, 2) := by decide +kernel
theorem dL_holds_786 : decode cL_holds 786 = .ok (.invokevirtual 13, 3) := by decide +kernel
theorem dL_holds_789 : decode cL_holds 789 = .ok (.if_icmp .ne 85, 3) := by decide +kernel
theorem dL_holds_792 : decode cL_holds 792 = .ok (.iload 5, 2) := by decide +kernel
theorem dL_holds_794 : decode cL_holds 794 = .ok (.aload_n 0, 1) := by decide +kernel
theorem dL_holds_795 : decode cL_holds 795 = .ok (.bipush 8, 2) := by decide +kernel
theorem dL_holds_797 : decode cL_holds 797 = .ok (.invokevirtual 13, 3) := by decide +kernel
theorem dL_holds_800 : decode cL_holds 800 = .ok (.if_icmp .ne 74, 3) := by decide +kernel
theorem dL_holds_803 : decode cL_holds 803 = .ok (.iload 5, 2) := by decide +kernel
theorem dL_holds_805 : decode cL_holds 805 = .ok (.bipush 8, 2) := by decide +kernel
theorem dL_holds_807 : decode cL_holds 807 = .ok (.iload 4, 2) := by decide +kernel
theorem dL_holds_809 : decode cL_holds 809 = .ok (.isub, 1) := by decide +kernel
theorem dL_holds_810 : decode cL_holds 810 = .ok (.if_icmp .ne 64, 3) := by decide +kernel
theorem dL_holds_813 : decode cL_holds 813 = .ok (.aload_n 0, 1) := by decide +kernel
theorem dL_holds_814 : decode cL_holds 814 = .ok (.bipush 13, 2) := by decide +kernel
theorem dL_holds_816 : decode cL_holds 816 = .ok (.invokevirtual 13, 3) := by decide +kernel
theorem dL_holds_819 : decode cL_holds 819 = .ok (.bipush 20, 2) := by decide +kernel
theorem dL_holds_821 : decode cL_holds 821 = .ok (.if_icmp .gt 53, 3) := by decide +kernel
theorem dL_holds_824 : decode cL_holds 824 = .ok (.aload_n 0, 1) := by decide +kernel
theorem dL_holds_825 : decode cL_holds 825 = .ok (.aload_n 0, 1) := by decide +kernel
theorem dL_holds_826 : decode cL_holds 826 = .ok (.bipush 13, 2) := by decide +kernel
theorem dL_holds_828 : decode cL_holds 828 = .ok (.invokevirtual 13, 3) := by decide +kernel
theorem dL_holds_831 : decode cL_holds 831 = .ok (.iconst 0, 1) := by decide +kernel
theorem dL_holds_832 : decode cL_holds 832 = .ok (.invokevirtual 23, 3) := by decide +kernel
theorem dL_holds_835 : decode cL_holds 835 = .ok (.sipush (-1000), 3) := by decide +kernel
theorem dL_holds_838 : decode cL_holds 838 = .ok (.if_icmp .ne 36, 3) := by decide +kernel
theorem dL_holds_841 : decode cL_holds 841 = .ok (.aload_n 0, 1) := by decide +kernel
theorem dL_holds_842 : decode cL_holds 842 = .ok (.invokevirtual 83, 3) := by decide +kernel
theorem dL_holds_845 : decode cL_holds 845 = .ok (.ldc2_w 87, 3) := by decide +kernel
theorem dL_holds_848 : decode cL_holds 848 = .ok (.dcmp .g, 1) := by decide +kernel
theorem dL_holds_849 : decode cL_holds 849 = .ok (.ifCond .gt 25, 3) := by decide +kernel
theorem dL_holds_852 : decode cL_holds 852 = .ok (.aload_n 0, 1) := by decide +kernel
theorem dL_holds_853 : decode cL_holds 853 = .ok (.invokevirtual 89, 3) := by decide +kernel
theorem dL_holds_856 : decode cL_holds 856 = .ok (.fconst 0, 1) := by decide +kernel
theorem dL_holds_857 : decode cL_holds 857 = .ok (.fcmp .l, 1) := by decide +kernel
theorem dL_holds_858 : decode cL_holds 858 = .ok (.ifCond .lt 16, 3) := by decide +kernel
theorem dL_holds_861 : decode cL_holds 861 = .ok (.aload_n 0, 1) := by decide +kernel
theorem dL_holds_862 : decode cL_holds 862 = .ok (.invokevirtual 89, 3) := by decide +kernel
theorem dL_holds_865 : decode cL_holds 865 = .ok (.fconst 1, 1) := by decide +kernel
theorem dL_holds_866 : decode cL_holds 866 = .ok (.fcmp .g, 1) := by decide +kernel
theorem dL_holds_867 : decode cL_holds 867 = .ok (.ifCond .gt 7, 3) := by decide +kernel
theorem dL_holds_870 : decode cL_holds 870 = .ok (.iconst 1, 1) := by decide +kernel
theorem dL_holds_871 : decode cL_holds 871 = .ok (.goto 4, 3) := by decide +kernel
theorem dL_holds_874 : decode cL_holds 874 = .ok (.iconst 0, 1) := by decide +kernel
theorem dL_holds_875 : decode cL_holds 875 = .ok (.ireturn, 1) := by decide +kernel
