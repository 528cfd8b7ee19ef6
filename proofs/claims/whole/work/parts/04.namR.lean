theorem dX7_init_0 : decode cX7_init 0 = .ok (.aload_n 0, 1) := by decide +kernel
theorem dX7_init_1 : decode cX7_init 1 = .ok (.invokespecial 1, 3) := by decide +kernel
theorem dX7_init_4 : decode cX7_init 4 = .ok (.aload_n 0, 1) := by decide +kernel
theorem dX7_init_5 : decode cX7_init 5 = .ok (.sipush 1170, 3) := by decide +kernel
theorem dX7_init_8 : decode cX7_init 8 = .ok (.newarray .int, 2) := by decide +kernel
theorem dX7_init_10 : decode cX7_init 10 = .ok (.putfield 7, 3) := by decide +kernel
theorem dX7_init_13 : decode cX7_init 13 = .ok (.aload_n 0, 1) := by decide +kernel
theorem dX7_init_14 : decode cX7_init 14 = .ok (.bipush 60, 2) := by decide +kernel
theorem dX7_init_16 : decode cX7_init 16 = .ok (.newarray .int, 2) := by decide +kernel
theorem dX7_init_18 : decode cX7_init 18 = .ok (.putfield 13, 3) := by decide +kernel
theorem dX7_init_21 : decode cX7_init 21 = .ok (.aload_n 0, 1) := by decide +kernel
theorem dX7_init_22 : decode cX7_init 22 = .ok (.bipush 8, 2) := by decide +kernel
theorem dX7_init_24 : decode cX7_init 24 = .ok (.newarray .int, 2) := by decide +kernel
theorem dX7_init_26 : decode cX7_init 26 = .ok (.putfield 16, 3) := by decide +kernel
theorem dX7_init_29 : decode cX7_init 29 = .ok (.aload_n 0, 1) := by decide +kernel
theorem dX7_init_30 : decode cX7_init 30 = .ok (.getfield 7, 3) := by decide +kernel
theorem dX7_init_33 : decode cX7_init 33 = .ok (.bipush 6, 2) := by decide +kernel
theorem dX7_init_35 : decode cX7_init 35 = .ok (.sipush (-1000), 3) := by decide +kernel
theorem dX7_init_38 : decode cX7_init 38 = .ok (.iastore, 1) := by decide +kernel
theorem dX7_init_39 : decode cX7_init 39 = .ok (.aload_n 0, 1) := by decide +kernel
theorem dX7_init_40 : decode cX7_init 40 = .ok (.getfield 7, 3) := by decide +kernel
theorem dX7_init_43 : decode cX7_init 43 = .ok (.bipush 7, 2) := by decide +kernel
theorem dX7_init_45 : decode cX7_init 45 = .ok (.sipush (-1000), 3) := by decide +kernel
theorem dX7_init_48 : decode cX7_init 48 = .ok (.iastore, 1) := by decide +kernel
theorem dX7_init_49 : decode cX7_init 49 = .ok (.iconst 0, 1) := by decide +kernel
theorem dX7_init_50 : decode cX7_init 50 = .ok (.istore_n 1, 1) := by decide +kernel
theorem dX7_init_51 : decode cX7_init 51 = .ok (.iload_n 1, 1) := by decide +kernel
theorem dX7_init_52 : decode cX7_init 52 = .ok (.bipush 8, 2) := by decide +kernel
theorem dX7_init_54 : decode cX7_init 54 = .ok (.if_icmp .ge 52, 3) := by decide +kernel
theorem dX7_init_57 : decode cX7_init 57 = .ok (.aload_n 0, 1) := by decide +kernel
theorem dX7_init_58 : decode cX7_init 58 = .ok (.getfield 7, 3) := by decide +kernel
theorem dX7_init_61 : decode cX7_init 61 = .ok (.bipush 9, 2) := by decide +kernel
theorem dX7_init_63 : decode cX7_init 63 = .ok (.iconst 5, 1) := by decide +kernel
theorem dX7_init_64 : decode cX7_init 64 = .ok (.iload_n 1, 1) := by decide +kernel
theorem dX7_init_65 : decode cX7_init 65 = .ok (.imul, 1) := by decide +kernel
theorem dX7_init_66 : decode cX7_init 66 = .ok (.iadd, 1) := by decide +kernel
theorem dX7_init_67 : decode cX7_init 67 = .ok (.iconst 0, 1) := by decide +kernel
theorem dX7_init_68 : decode cX7_init 68 = .ok (.iadd, 1) := by decide +kernel
theorem dX7_init_69 : decode cX7_init 69 = .ok (.bipush 60, 2) := by decide +kernel
theorem dX7_init_71 : decode cX7_init 71 = .ok (.iastore, 1) := by decide +kernel
theorem dX7_init_72 : decode cX7_init 72 = .ok (.aload_n 0, 1) := by decide +kernel
theorem dX7_init_73 : decode cX7_init 73 = .ok (.getfield 7, 3) := by decide +kernel
theorem dX7_init_76 : decode cX7_init 76 = .ok (.bipush 9, 2) := by decide +kernel
theorem dX7_init_78 : decode cX7_init 78 = .ok (.iconst 5, 1) := by decide +kernel
theorem dX7_init_79 : decode cX7_init 79 = .ok (.iload_n 1, 1) := by decide +kernel
theorem dX7_init_80 : decode cX7_init 80 = .ok (.imul, 1) := by decide +kernel
theorem dX7_init_81 : decode cX7_init 81 = .ok (.iadd, 1) := by decide +kernel
theorem dX7_init_82 : decode cX7_init 82 = .ok (.iconst 1, 1) := by decide +kernel
theorem dX7_init_83 : decode cX7_init 83 = .ok (.iadd, 1) := by decide +kernel
theorem dX7_init_84 : decode cX7_init 84 = .ok (.iconst 4, 1) := by decide +kernel
theorem dX7_init_85 : decode cX7_init 85 = .ok (.iastore, 1) := by decide +kernel
theorem dX7_init_86 : decode cX7_init 86 = .ok (.aload_n 0, 1) := by decide +kernel
theorem dX7_init_87 : decode cX7_init 87 = .ok (.getfield 7, 3) := by decide +kernel
theorem dX7_init_90 : decode cX7_init 90 = .ok (.bipush 9, 2) := by decide +kernel
theorem dX7_init_92 : decode cX7_init 92 = .ok (.iconst 5, 1) := by decide +kernel
theorem dX7_init_93 : decode cX7_init 93 = .ok (.iload_n 1, 1) := by decide +kernel
theorem dX7_init_94 : decode cX7_init 94 = .ok (.imul, 1) := by decide +kernel
theorem dX7_init_95 : decode cX7_init 95 = .ok (.iadd, 1) := by decide +kernel
theorem dX7_init_96 : decode cX7_init 96 = .ok (.iconst 2, 1) := by decide +kernel
theorem dX7_init_97 : decode cX7_init 97 = .ok (.iadd, 1) := by decide +kernel
theorem dX7_init_98 : decode cX7_init 98 = .ok (.iconst 1, 1) := by decide +kernel
theorem dX7_init_99 : decode cX7_init 99 = .ok (.iastore, 1) := by decide +kernel
theorem dX7_init_100 : decode cX7_init 100 = .ok (.iinc 1 1, 3) := by decide +kernel
theorem dX7_init_103 : decode cX7_init 103 = .ok (.goto (-52), 3) := by decide +kernel
theorem dX7_init_106 : decode cX7_init 106 = .ok (.iconst 0, 1) := by decide +kernel
theorem dX7_init_107 : decode cX7_init 107 = .ok (.istore_n 1, 1) := by decide +kernel
theorem dX7_init_108 : decode cX7_init 108 = .ok (.iload_n 1, 1) := by decide +kernel
theorem dX7_init_109 : decode cX7_init 109 = .ok (.bipush 7, 2) := by decide +kernel
theorem dX7_init_111 : decode cX7_init 111 = .ok (.if_icmp .ge 52, 3) := by decide +kernel
theorem dX7_init_114 : decode cX7_init 114 = .ok (.aload_n 0, 1) := by decide +kernel
theorem dX7_init_115 : decode cX7_init 115 = .ok (.getfield 7, 3) := by decide +kernel
theorem dX7_init_118 : decode cX7_init 118 = .ok (.bipush 49, 2) := by decide +kernel
theorem dX7_init_120 : decode cX7_init 120 = .ok (.iconst 3, 1) := by decide +kernel
theorem dX7_init_121 : decode cX7_init 121 = .ok (.iload_n 1, 1) := by decide +kernel
theorem dX7_init_122 : decode cX7_init 122 = .ok (.imul, 1) := by decide +kernel
theorem dX7_init_123 : decode cX7_init 123 = .ok (.iadd, 1) := by decide +kernel
theorem dX7_init_124 : decode cX7_init 124 = .ok (.iconst 1, 1) := by decide +kernel
theorem dX7_init_125 : decode cX7_init 125 = .ok (.iastore, 1) := by decide +kernel
theorem dX7_init_126 : decode cX7_init 126 = .ok (.aload_n 0, 1) := by decide +kernel
theorem dX7_init_127 : decode cX7_init 127 = .ok (.getfield 7, 3) := by decide +kernel
theorem dX7_init_130 : decode cX7_init 130 = .ok (.bipush 49, 2) := by decide +kernel
theorem dX7_init_132 : decode cX7_init 132 = .ok (.iconst 3, 1) := by decide +kernel
theorem dX7_init_133 : decode cX7_init 133 = .ok (.iload_n 1, 1) := by decide +kernel
theorem dX7_init_134 : decode cX7_init 134 = .ok (.imul, 1) := by decide +kernel
theorem dX7_init_135 : decode cX7_init 135 = .ok (.iadd, 1) := by decide +kernel
theorem dX7_init_136 : decode cX7_init 136 = .ok (.iconst 1, 1) := by decide +kernel
theorem dX7_init_137 : decode cX7_init 137 = .ok (.iadd, 1) := by decide +kernel
theorem dX7_init_138 : decode cX7_init 138 = .ok (.bipush 100, 2) := by decide +kernel
theorem dX7_init_140 : decode cX7_init 140 = .ok (.iastore, 1) := by decide +kernel
theorem dX7_init_141 : decode cX7_init 141 = .ok (.aload_n 0, 1) := by decide +kernel
theorem dX7_init_142 : decode cX7_init 142 = .ok (.getfield 7, 3) := by decide +kernel
theorem dX7_init_145 : decode cX7_init 145 = .ok (.bipush 49, 2) := by decide +kernel
theorem dX7_init_147 : decode cX7_init 147 = .ok (.iconst 3, 1) := by decide +kernel
theorem dX7_init_148 : decode cX7_init 148 = .ok (.iload_n 1, 1) := by decide +kernel
theorem dX7_init_149 : decode cX7_init 149 = .ok (.imul, 1) := by decide +kernel
theorem dX7_init_150 : decode cX7_init 150 = .ok (.iadd, 1) := by decide +kernel
theorem dX7_init_151 : decode cX7_init 151 = .ok (.iconst 2, 1) := by decide +kernel
theorem dX7_init_152 : decode cX7_init 152 = .ok (.iadd, 1) := by decide +kernel
theorem dX7_init_153 : decode cX7_init 153 = .ok (.sipush 150, 3) := by decide +kernel
theorem dX7_init_156 : decode cX7_init 156 = .ok (.iastore, 1) := by decide +kernel
theorem dX7_init_157 : decode cX7_init 157 = .ok (.iinc 1 1, 3) := by decide +kernel
theorem dX7_init_160 : decode cX7_init 160 = .ok (.goto (-52), 3) := by decide +kernel
theorem dX7_init_163 : decode cX7_init 163 = .ok (.return_, 1) := by decide +kernel
theorem dX7_thrown_0 : decode cX7_thrown 0 = .ok (.aload_n 0, 1) := by decide +kernel
theorem dX7_thrown_1 : decode cX7_thrown 1 = .ok (.getfield 19, 3) := by decide +kernel
theorem dX7_thrown_4 : decode cX7_thrown 4 = .ok (.ireturn, 1) := by decide +kernel
theorem dX7_in_0 : decode cX7_in 0 = .ok (.iload_n 0, 1) := by decide +kernel
theorem dX7_in_1 : decode cX7_in 1 = .ok (.iload_n 1, 1) := by decide +kernel
theorem dX7_in_2 : decode cX7_in 2 = .ok (.if_icmp .lt 12, 3) := by decide +kernel
theorem dX7_in_5 : decode cX7_in 5 = .ok (.iload_n 0, 1) := by decide +kernel
theorem dX7_in_6 : decode cX7_in 6 = .ok (.iload_n 2, 1) := by decide +kernel
theorem dX7_in_7 : decode cX7_in 7 = .ok (.if_icmp .gt 7, 3) := by decide +kernel
theorem dX7_in_10 : decode cX7_in 10 = .ok (.iconst 1, 1) := by decide +kernel
theorem dX7_in_11 : decode cX7_in 11 = .ok (.goto 4, 3) := by decide +kernel
theorem dX7_in_14 : decode cX7_in 14 = .ok (.iconst 0, 1) := by decide +kernel
theorem dX7_in_15 : decode cX7_in 15 = .ok (.ireturn, 1) := by decide +kernel
theorem dX7_holds_0 : decode cX7_holds 0 = .ok (.aload_n 0, 1) := by decide +kernel
theorem dX7_holds_1 : decode cX7_holds 1 = .ok (.iload_n 1, 1) := by decide +kernel
theorem dX7_holds_2 : decode cX7_holds 2 = .ok (.putfield 19, 3) := by decide +kernel
theorem dX7_holds_5 : decode cX7_holds 5 = .ok (.iload_n 1, 1) := by decide +kernel
theorem dX7_holds_6 : decode cX7_holds 6 = .ok (.ifCond .ne 7, 3) := by decide +kernel
theorem dX7_holds_9 : decode cX7_holds 9 = .ok (.iconst 1, 1) := by decide +kernel
theorem dX7_holds_10 : decode cX7_holds 10 = .ok (.goto 4, 3) := by decide +kernel
theorem dX7_holds_13 : decode cX7_holds 13 = .ok (.iconst 0, 1) := by decide +kernel
theorem dX7_holds_14 : decode cX7_holds 14 = .ok (.ireturn, 1) := by decide +kernel
set_option maxRecDepth 20000 in
theorem ggX7_isBalloon_X7_in : GoodIn wsX7_isBalloon wsX7_in := goodIn_r _ [4] (by decide +kernel) (by decide +kernel)
set_option maxRecDepth 20000 in
theorem gX7_isBalloon_X7_in : GoodIn wsX7_isBalloon (va_wsS RX7 23 yX7_in wsX7_in) := goodIn_app (goodIn_of _ (by decide +kernel)) ggX7_isBalloon_X7_in
theorem dX7_isBalloon_0 : decode cX7_isBalloon 0 = .ok (.iload_n 0, 1) := by decide +kernel
theorem dX7_isBalloon_1 : decode cX7_isBalloon 1 = .ok (.iconst 0, 1) := by decide +kernel
theorem dX7_isBalloon_2 : decode cX7_isBalloon 2 = .ok (.bipush 7, 2) := by decide +kernel
theorem dX7_isBalloon_4 : decode cX7_isBalloon 4 = .ok (.invokestatic 23, 3) := by decide +kernel
theorem dX7_isBalloon_7 : decode cX7_isBalloon 7 = .ok (.ireturn, 1) := by decide +kernel
set_option maxRecDepth 20000 in
theorem ggX7_isRibbon_X7_in : GoodIn wsX7_isRibbon wsX7_in := goodIn_r _ [4] (by decide +kernel) (by decide +kernel)
set_option maxRecDepth 20000 in
theorem gX7_isRibbon_X7_in : GoodIn wsX7_isRibbon (va_wsS RX7 23 yX7_in wsX7_in) := goodIn_app (goodIn_of _ (by decide +kernel)) ggX7_isRibbon_X7_in
theorem dX7_isRibbon_0 : decode cX7_isRibbon 0 = .ok (.iload_n 0, 1) := by decide +kernel
theorem dX7_isRibbon_1 : decode cX7_isRibbon 1 = .ok (.iconst 0, 1) := by decide +kernel
theorem dX7_isRibbon_2 : decode cX7_isRibbon 2 = .ok (.bipush 6, 2) := by decide +kernel
theorem dX7_isRibbon_4 : decode cX7_isRibbon 4 = .ok (.invokestatic 23, 3) := by decide +kernel
theorem dX7_isRibbon_7 : decode cX7_isRibbon 7 = .ok (.ireturn, 1) := by decide +kernel
theorem dX7_of_0 : decode cX7_of 0 = .ok (.aload_n 0, 1) := by decide +kernel
theorem dX7_of_1 : decode cX7_of 1 = .ok (.getfield 7, 3) := by decide +kernel
theorem dX7_of_4 : decode cX7_of 4 = .ok (.iload_n 1, 1) := by decide +kernel
theorem dX7_of_5 : decode cX7_of 5 = .ok (.bipush 9, 2) := by decide +kernel
theorem dX7_of_7 : decode cX7_of 7 = .ok (.iadd, 1) := by decide +kernel
theorem dX7_of_8 : decode cX7_of 8 = .ok (.iconst 5, 1) := by decide +kernel
theorem dX7_of_9 : decode cX7_of 9 = .ok (.iload_n 2, 1) := by decide +kernel
theorem dX7_of_10 : decode cX7_of 10 = .ok (.imul, 1) := by decide +kernel
theorem dX7_of_11 : decode cX7_of 11 = .ok (.iadd, 1) := by decide +kernel
theorem dX7_of_12 : decode cX7_of 12 = .ok (.iload_n 3, 1) := by decide +kernel
theorem dX7_of_13 : decode cX7_of 13 = .ok (.iadd, 1) := by decide +kernel
theorem dX7_of_14 : decode cX7_of 14 = .ok (.iaload, 1) := by decide +kernel
theorem dX7_of_15 : decode cX7_of 15 = .ok (.ireturn, 1) := by decide +kernel
theorem dX7_adds_0 : decode cX7_adds 0 = .ok (.aload_n 0, 1) := by decide +kernel
theorem dX7_adds_1 : decode cX7_adds 1 = .ok (.getfield 7, 3) := by decide +kernel
theorem dX7_adds_4 : decode cX7_adds 4 = .ok (.iload_n 1, 1) := by decide +kernel
theorem dX7_adds_5 : decode cX7_adds 5 = .ok (.bipush 9, 2) := by decide +kernel
theorem dX7_adds_7 : decode cX7_adds 7 = .ok (.iadd, 1) := by decide +kernel
theorem dX7_adds_8 : decode cX7_adds 8 = .ok (.iconst 5, 1) := by decide +kernel
theorem dX7_adds_9 : decode cX7_adds 9 = .ok (.iload_n 2, 1) := by decide +kernel
theorem dX7_adds_10 : decode cX7_adds 10 = .ok (.imul, 1) := by decide +kernel
theorem dX7_adds_11 : decode cX7_adds 11 = .ok (.iadd, 1) := by decide +kernel
theorem dX7_adds_12 : decode cX7_adds 12 = .ok (.iload_n 3, 1) := by decide +kernel
theorem dX7_adds_13 : decode cX7_adds 13 = .ok (.iadd, 1) := by decide +kernel
theorem dX7_adds_14 : decode cX7_adds 14 = .ok (.dup2, 1) := by decide +kernel
theorem dX7_adds_15 : decode cX7_adds 15 = .ok (.iaload, 1) := by decide +kernel
theorem dX7_adds_16 : decode cX7_adds 16 = .ok (.iload 4, 2) := by decide +kernel
theorem dX7_adds_18 : decode cX7_adds 18 = .ok (.iadd, 1) := by decide +kernel
theorem dX7_adds_19 : decode cX7_adds 19 = .ok (.iastore, 1) := by decide +kernel
theorem dX7_adds_20 : decode cX7_adds 20 = .ok (.return_, 1) := by decide +kernel
theorem dX7_isTied_0 : decode cX7_isTied 0 = .ok (.aload_n 0, 1) := by decide +kernel
theorem dX7_isTied_1 : decode cX7_isTied 1 = .ok (.getfield 7, 3) := by decide +kernel
theorem dX7_isTied_4 : decode cX7_isTied 4 = .ok (.iload_n 1, 1) := by decide +kernel
theorem dX7_isTied_5 : decode cX7_isTied 5 = .ok (.bipush 49, 2) := by decide +kernel
theorem dX7_isTied_7 : decode cX7_isTied 7 = .ok (.iadd, 1) := by decide +kernel
theorem dX7_isTied_8 : decode cX7_isTied 8 = .ok (.iconst 3, 1) := by decide +kernel
theorem dX7_isTied_9 : decode cX7_isTied 9 = .ok (.iload_n 2, 1) := by decide +kernel
theorem dX7_isTied_10 : decode cX7_isTied 10 = .ok (.imul, 1) := by decide +kernel
theorem dX7_isTied_11 : decode cX7_isTied 11 = .ok (.iadd, 1) := by decide +kernel
theorem dX7_isTied_12 : decode cX7_isTied 12 = .ok (.iaload, 1) := by decide +kernel
theorem dX7_isTied_13 : decode cX7_isTied 13 = .ok (.iconst 1, 1) := by decide +kernel
theorem dX7_isTied_14 : decode cX7_isTied 14 = .ok (.if_icmp .ne 7, 3) := by decide +kernel
theorem dX7_isTied_17 : decode cX7_isTied 17 = .ok (.iconst 1, 1) := by decide +kernel
theorem dX7_isTied_18 : decode cX7_isTied 18 = .ok (.goto 4, 3) := by decide +kernel
theorem dX7_isTied_21 : decode cX7_isTied 21 = .ok (.iconst 0, 1) := by decide +kernel
theorem dX7_isTied_22 : decode cX7_isTied 22 = .ok (.ireturn, 1) := by decide +kernel
theorem dX7_long1_0 : decode cX7_long1 0 = .ok (.aload_n 0, 1) := by decide +kernel
theorem dX7_long1_1 : decode cX7_long1 1 = .ok (.getfield 7, 3) := by decide +kernel
theorem dX7_long1_4 : decode cX7_long1 4 = .ok (.iload_n 1, 1) := by decide +kernel
theorem dX7_long1_5 : decode cX7_long1 5 = .ok (.bipush 49, 2) := by decide +kernel
theorem dX7_long1_7 : decode cX7_long1 7 = .ok (.iadd, 1) := by decide +kernel
theorem dX7_long1_8 : decode cX7_long1 8 = .ok (.iconst 3, 1) := by decide +kernel
theorem dX7_long1_9 : decode cX7_long1 9 = .ok (.iload_n 2, 1) := by decide +kernel
theorem dX7_long1_10 : decode cX7_long1 10 = .ok (.imul, 1) := by decide +kernel
theorem dX7_long1_11 : decode cX7_long1 11 = .ok (.iadd, 1) := by decide +kernel
theorem dX7_long1_12 : decode cX7_long1 12 = .ok (.iconst 1, 1) := by decide +kernel
theorem dX7_long1_13 : decode cX7_long1 13 = .ok (.iadd, 1) := by decide +kernel
theorem dX7_long1_14 : decode cX7_long1 14 = .ok (.iaload, 1) := by decide +kernel
theorem dX7_long1_15 : decode cX7_long1 15 = .ok (.ireturn, 1) := by decide +kernel
set_option maxRecDepth 20000 in
theorem ggX7_lift_X7_of : GoodIn wsX7_lift wsX7_of := goodIn_r _ [5, 6, 7, 8, 9, 10, 11, 12, 13, 14, 15, 16, 17, 18] (by decide +kernel) (by decide +kernel)
set_option maxRecDepth 20000 in
theorem gX7_lift_X7_of : GoodIn wsX7_lift (wsV RX7 27 RX7 yX7_of wsX7_of) := goodIn_app (goodIn_of _ (by decide +kernel)) ggX7_lift_X7_of
theorem dX7_lift_0 : decode cX7_lift 0 = .ok (.aload_n 0, 1) := by decide +kernel
theorem dX7_lift_1 : decode cX7_lift 1 = .ok (.iload_n 1, 1) := by decide +kernel
theorem dX7_lift_2 : decode cX7_lift 2 = .ok (.iload_n 2, 1) := by decide +kernel
theorem dX7_lift_3 : decode cX7_lift 3 = .ok (.iconst 0, 1) := by decide +kernel
theorem dX7_lift_4 : decode cX7_lift 4 = .ok (.invokevirtual 27, 3) := by decide +kernel
theorem dX7_lift_7 : decode cX7_lift 7 = .ok (.bipush 10, 2) := by decide +kernel
theorem dX7_lift_9 : decode cX7_lift 9 = .ok (.isub, 1) := by decide +kernel
theorem dX7_lift_10 : decode cX7_lift 10 = .ok (.iconst 5, 1) := by decide +kernel
theorem dX7_lift_11 : decode cX7_lift 11 = .ok (.aload_n 0, 1) := by decide +kernel
theorem dX7_lift_12 : decode cX7_lift 12 = .ok (.iload_n 1, 1) := by decide +kernel
theorem dX7_lift_13 : decode cX7_lift 13 = .ok (.iload_n 2, 1) := by decide +kernel
theorem dX7_lift_14 : decode cX7_lift 14 = .ok (.iconst 1, 1) := by decide +kernel
theorem dX7_lift_15 : decode cX7_lift 15 = .ok (.invokevirtual 27, 3) := by decide +kernel
theorem dX7_lift_18 : decode cX7_lift 18 = .ok (.imul, 1) := by decide +kernel
theorem dX7_lift_19 : decode cX7_lift 19 = .ok (.isub, 1) := by decide +kernel
theorem dX7_lift_20 : decode cX7_lift 20 = .ok (.ireturn, 1) := by decide +kernel
set_option maxRecDepth 20000 in
theorem ggX7_wants_X7_lift : GoodIn wsX7_wants wsX7_lift := goodIn_r _ [5, 6, 7, 8, 4, 9, 10, 11, 12, 13, 14, 15, 16, 17, 18, 19, 20, 21, 22] (by decide +kernel) (by decide +kernel)
set_option maxRecDepth 20000 in
theorem gX7_wants_X7_lift : GoodIn wsX7_wants (wsV RX7 31 RX7 yX7_lift wsX7_lift) := goodIn_app (goodIn_of _ (by decide +kernel)) ggX7_wants_X7_lift
theorem dX7_wants_0 : decode cX7_wants 0 = .ok (.bipush 10, 2) := by decide +kernel
theorem dX7_wants_2 : decode cX7_wants 2 = .ok (.aload_n 0, 1) := by decide +kernel
theorem dX7_wants_3 : decode cX7_wants 3 = .ok (.iload_n 1, 1) := by decide +kernel
theorem dX7_wants_4 : decode cX7_wants 4 = .ok (.iload_n 2, 1) := by decide +kernel
theorem dX7_wants_5 : decode cX7_wants 5 = .ok (.invokevirtual 31, 3) := by decide +kernel
theorem dX7_wants_8 : decode cX7_wants 8 = .ok (.imul, 1) := by decide +kernel
theorem dX7_wants_9 : decode cX7_wants 9 = .ok (.istore_n 3, 1) := by decide +kernel
theorem dX7_wants_10 : decode cX7_wants 10 = .ok (.iload_n 3, 1) := by decide +kernel
theorem dX7_wants_11 : decode cX7_wants 11 = .ok (.ifCond .ge 7, 3) := by decide +kernel
theorem dX7_wants_14 : decode cX7_wants 14 = .ok (.iconst 0, 1) := by decide +kernel
theorem dX7_wants_15 : decode cX7_wants 15 = .ok (.goto 17, 3) := by decide +kernel
theorem dX7_wants_18 : decode cX7_wants 18 = .ok (.iload_n 3, 1) := by decide +kernel
theorem dX7_wants_19 : decode cX7_wants 19 = .ok (.sipush 999, 3) := by decide +kernel
theorem dX7_wants_22 : decode cX7_wants 22 = .ok (.if_icmp .le 9, 3) := by decide +kernel
theorem dX7_wants_25 : decode cX7_wants 25 = .ok (.sipush 999, 3) := by decide +kernel
theorem dX7_wants_28 : decode cX7_wants 28 = .ok (.goto 4, 3) := by decide +kernel
theorem dX7_wants_31 : decode cX7_wants 31 = .ok (.iload_n 3, 1) := by decide +kernel
theorem dX7_wants_32 : decode cX7_wants 32 = .ok (.ireturn, 1) := by decide +kernel
theorem dX7_lesser_0 : decode cX7_lesser 0 = .ok (.iload_n 0, 1) := by decide +kernel
theorem dX7_lesser_1 : decode cX7_lesser 1 = .ok (.iload_n 1, 1) := by decide +kernel
theorem dX7_lesser_2 : decode cX7_lesser 2 = .ok (.if_icmp .ge 7, 3) := by decide +kernel
theorem dX7_lesser_5 : decode cX7_lesser 5 = .ok (.iload_n 0, 1) := by decide +kernel
theorem dX7_lesser_6 : decode cX7_lesser 6 = .ok (.goto 4, 3) := by decide +kernel
theorem dX7_lesser_9 : decode cX7_lesser 9 = .ok (.iload_n 1, 1) := by decide +kernel
theorem dX7_lesser_10 : decode cX7_lesser 10 = .ok (.ireturn, 1) := by decide +kernel
set_option maxRecDepth 20000 in
theorem ggX7_rises_X7_wants : GoodIn wsX7_rises wsX7_wants := goodIn_r _ [6, 7, 8, 9, 5, 10, 11, 12, 13, 14, 15, 27, 28, 29, 30, 31, 32, 33, 34, 35, 36, 37, 38] (by decide +kernel) (by decide +kernel)
set_option maxRecDepth 20000 in
theorem gX7_rises_X7_wants : GoodIn wsX7_rises (wsV RX7 35 RX7 yX7_wants wsX7_wants) := goodIn_app (goodIn_of _ (by decide +kernel)) ggX7_rises_X7_wants
set_option maxRecDepth 20000 in
theorem ggX7_rises_X7_isTied : GoodIn wsX7_rises wsX7_isTied := goodIn_r _ [19, 15, 27, 28, 29, 30, 31, 32, 33, 34, 35, 36, 37, 38] (by decide +kernel) (by decide +kernel)
set_option maxRecDepth 20000 in
theorem gX7_rises_X7_isTied : GoodIn wsX7_rises (wsV RX7 38 RX7 yX7_isTied wsX7_isTied) := goodIn_app (goodIn_of _ (by decide +kernel)) ggX7_rises_X7_isTied
set_option maxRecDepth 20000 in
theorem ggX7_rises_X7_long1 : GoodIn wsX7_rises wsX7_long1 := goodIn_r _ [23, 15, 27, 28, 29, 30, 31, 32, 33, 34, 35, 36, 37, 38] (by decide +kernel) (by decide +kernel)
set_option maxRecDepth 20000 in
theorem gX7_rises_X7_long1 : GoodIn wsX7_rises (wsV RX7 42 RX7 yX7_long1 wsX7_long1) := goodIn_app (goodIn_of _ (by decide +kernel)) ggX7_rises_X7_long1
set_option maxRecDepth 20000 in
theorem ggX7_rises_X7_lesser : GoodIn wsX7_rises wsX7_lesser := goodIn_r _ [26] (by decide +kernel) (by decide +kernel)
set_option maxRecDepth 20000 in
theorem gX7_rises_X7_lesser : GoodIn wsX7_rises (va_wsS RX7 45 yX7_lesser wsX7_lesser) := goodIn_app (goodIn_of _ (by decide +kernel)) ggX7_rises_X7_lesser
theorem dX7_rises_0 : decode cX7_rises 0 = .ok (.iconst 0, 1) := by decide +kernel
theorem dX7_rises_1 : decode cX7_rises 1 = .ok (.istore_n 2, 1) := by decide +kernel
theorem dX7_rises_2 : decode cX7_rises 2 = .ok (.iload_n 2, 1) := by decide +kernel
theorem dX7_rises_3 : decode cX7_rises 3 = .ok (.bipush 8, 2) := by decide +kernel
theorem dX7_rises_5 : decode cX7_rises 5 = .ok (.if_icmp .ge 68, 3) := by decide +kernel
theorem dX7_rises_8 : decode cX7_rises 8 = .ok (.aload_n 0, 1) := by decide +kernel
theorem dX7_rises_9 : decode cX7_rises 9 = .ok (.getfield 16, 3) := by decide +kernel
theorem dX7_rises_12 : decode cX7_rises 12 = .ok (.iload_n 2, 1) := by decide +kernel
theorem dX7_rises_13 : decode cX7_rises 13 = .ok (.aload_n 0, 1) := by decide +kernel
theorem dX7_rises_14 : decode cX7_rises 14 = .ok (.iload_n 1, 1) := by decide +kernel
theorem dX7_rises_15 : decode cX7_rises 15 = .ok (.iload_n 2, 1) := by decide +kernel
theorem dX7_rises_16 : decode cX7_rises 16 = .ok (.invokevirtual 35, 3) := by decide +kernel
theorem dX7_rises_19 : decode cX7_rises 19 = .ok (.iastore, 1) := by decide +kernel
theorem dX7_rises_20 : decode cX7_rises 20 = .ok (.iload_n 2, 1) := by decide +kernel
theorem dX7_rises_21 : decode cX7_rises 21 = .ok (.ifCond .le 46, 3) := by decide +kernel
theorem dX7_rises_24 : decode cX7_rises 24 = .ok (.aload_n 0, 1) := by decide +kernel
theorem dX7_rises_25 : decode cX7_rises 25 = .ok (.iload_n 1, 1) := by decide +kernel
theorem dX7_rises_26 : decode cX7_rises 26 = .ok (.iload_n 2, 1) := by decide +kernel
theorem dX7_rises_27 : decode cX7_rises 27 = .ok (.iconst 1, 1) := by decide +kernel
theorem dX7_rises_28 : decode cX7_rises 28 = .ok (.isub, 1) := by decide +kernel
theorem dX7_rises_29 : decode cX7_rises 29 = .ok (.invokevirtual 38, 3) := by decide +kernel
theorem dX7_rises_32 : decode cX7_rises 32 = .ok (.ifCond .eq 35, 3) := by decide +kernel
theorem dX7_rises_35 : decode cX7_rises 35 = .ok (.aload_n 0, 1) := by decide +kernel
theorem dX7_rises_36 : decode cX7_rises 36 = .ok (.getfield 16, 3) := by decide +kernel
theorem dX7_rises_39 : decode cX7_rises 39 = .ok (.iload_n 2, 1) := by decide +kernel
theorem dX7_rises_40 : decode cX7_rises 40 = .ok (.aload_n 0, 1) := by decide +kernel
theorem dX7_rises_41 : decode cX7_rises 41 = .ok (.getfield 16, 3) := by decide +kernel
theorem dX7_rises_44 : decode cX7_rises 44 = .ok (.iload_n 2, 1) := by decide +kernel
theorem dX7_rises_45 : decode cX7_rises 45 = .ok (.iaload, 1) := by decide +kernel
theorem dX7_rises_46 : decode cX7_rises 46 = .ok (.aload_n 0, 1) := by decide +kernel
theorem dX7_rises_47 : decode cX7_rises 47 = .ok (.getfield 16, 3) := by decide +kernel
theorem dX7_rises_50 : decode cX7_rises 50 = .ok (.iload_n 2, 1) := by decide +kernel
theorem dX7_rises_51 : decode cX7_rises 51 = .ok (.iconst 1, 1) := by decide +kernel
theorem dX7_rises_52 : decode cX7_rises 52 = .ok (.isub, 1) := by decide +kernel
theorem dX7_rises_53 : decode cX7_rises 53 = .ok (.iaload, 1) := by decide +kernel
theorem dX7_rises_54 : decode cX7_rises 54 = .ok (.aload_n 0, 1) := by decide +kernel
theorem dX7_rises_55 : decode cX7_rises 55 = .ok (.iload_n 1, 1) := by decide +kernel
theorem dX7_rises_56 : decode cX7_rises 56 = .ok (.iload_n 2, 1) := by decide +kernel
theorem dX7_rises_57 : decode cX7_rises 57 = .ok (.iconst 1, 1) := by decide +kernel
theorem dX7_rises_58 : decode cX7_rises 58 = .ok (.isub, 1) := by decide +kernel
theorem dX7_rises_59 : decode cX7_rises 59 = .ok (.invokevirtual 42, 3) := by decide +kernel
theorem dX7_rises_62 : decode cX7_rises 62 = .ok (.iadd, 1) := by decide +kernel
theorem dX7_rises_63 : decode cX7_rises 63 = .ok (.invokestatic 45, 3) := by decide +kernel
theorem dX7_rises_66 : decode cX7_rises 66 = .ok (.iastore, 1) := by decide +kernel
theorem dX7_rises_67 : decode cX7_rises 67 = .ok (.iinc 2 1, 3) := by decide +kernel
theorem dX7_rises_70 : decode cX7_rises 70 = .ok (.goto (-68), 3) := by decide +kernel
theorem dX7_rises_73 : decode cX7_rises 73 = .ok (.bipush 6, 2) := by decide +kernel
theorem dX7_rises_75 : decode cX7_rises 75 = .ok (.istore_n 2, 1) := by decide +kernel
theorem dX7_rises_76 : decode cX7_rises 76 = .ok (.iload_n 2, 1) := by decide +kernel
theorem dX7_rises_77 : decode cX7_rises 77 = .ok (.ifCond .lt 48, 3) := by decide +kernel
theorem dX7_rises_80 : decode cX7_rises 80 = .ok (.aload_n 0, 1) := by decide +kernel
theorem dX7_rises_81 : decode cX7_rises 81 = .ok (.iload_n 1, 1) := by decide +kernel
theorem dX7_rises_82 : decode cX7_rises 82 = .ok (.iload_n 2, 1) := by decide +kernel
theorem dX7_rises_83 : decode cX7_rises 83 = .ok (.invokevirtual 38, 3) := by decide +kernel
theorem dX7_rises_86 : decode cX7_rises 86 = .ok (.ifCond .eq 33, 3) := by decide +kernel
theorem dX7_rises_89 : decode cX7_rises 89 = .ok (.aload_n 0, 1) := by decide +kernel
theorem dX7_rises_90 : decode cX7_rises 90 = .ok (.getfield 16, 3) := by decide +kernel
theorem dX7_rises_93 : decode cX7_rises 93 = .ok (.iload_n 2, 1) := by decide +kernel
theorem dX7_rises_94 : decode cX7_rises 94 = .ok (.aload_n 0, 1) := by decide +kernel
theorem dX7_rises_95 : decode cX7_rises 95 = .ok (.getfield 16, 3) := by decide +kernel
theorem dX7_rises_98 : decode cX7_rises 98 = .ok (.iload_n 2, 1) := by decide +kernel
theorem dX7_rises_99 : decode cX7_rises 99 = .ok (.iaload, 1) := by decide +kernel
theorem dX7_rises_100 : decode cX7_rises 100 = .ok (.aload_n 0, 1) := by decide +kernel
theorem dX7_rises_101 : decode cX7_rises 101 = .ok (.getfield 16, 3) := by decide +kernel
theorem dX7_rises_104 : decode cX7_rises 104 = .ok (.iload_n 2, 1) := by decide +kernel
theorem dX7_rises_105 : decode cX7_rises 105 = .ok (.iconst 1, 1) := by decide +kernel
theorem dX7_rises_106 : decode cX7_rises 106 = .ok (.iadd, 1) := by decide +kernel
theorem dX7_rises_107 : decode cX7_rises 107 = .ok (.iaload, 1) := by decide +kernel
theorem dX7_rises_108 : decode cX7_rises 108 = .ok (.aload_n 0, 1) := by decide +kernel
theorem dX7_rises_109 : decode cX7_rises 109 = .ok (.iload_n 1, 1) := by decide +kernel
theorem dX7_rises_110 : decode cX7_rises 110 = .ok (.iload_n 2, 1) := by decide +kernel
theorem dX7_rises_111 : decode cX7_rises 111 = .ok (.invokevirtual 42, 3) := by decide +kernel
theorem dX7_rises_114 : decode cX7_rises 114 = .ok (.iadd, 1) := by decide +kernel
theorem dX7_rises_115 : decode cX7_rises 115 = .ok (.invokestatic 45, 3) := by decide +kernel
theorem dX7_rises_118 : decode cX7_rises 118 = .ok (.iastore, 1) := by decide +kernel
theorem dX7_rises_119 : decode cX7_rises 119 = .ok (.iinc 2 (-1), 3) := by decide +kernel
theorem dX7_rises_122 : decode cX7_rises 122 = .ok (.goto (-46), 3) := by decide +kernel
theorem dX7_rises_125 : decode cX7_rises 125 = .ok (.return_, 1) := by decide +kernel
set_option maxRecDepth 20000 in
theorem ggX7_allHeights_X7_rises : GoodIn wsX7_allHeights wsX7_rises := goodIn_r _ [6, 1, 7, 8, 9, 5, 10, 11, 12, 13, 14, 15, 16, 17, 18, 19, 20, 21, 22, 23, 24, 25, 26, 27, 28, 29, 30, 31, 32, 33, 34, 35, 36, 37, 38, 39, 40, 41, 42] (by decide +kernel) (by decide +kernel)
set_option maxRecDepth 20000 in
theorem gX7_allHeights_X7_rises : GoodIn wsX7_allHeights (wsV RX7 48 RX7 yX7_rises wsX7_rises) := goodIn_app (goodIn_of _ (by decide +kernel)) ggX7_allHeights_X7_rises
theorem dX7_allHeights_0 : decode cX7_allHeights 0 = .ok (.aload_n 0, 1) := by decide +kernel
theorem dX7_allHeights_1 : decode cX7_allHeights 1 = .ok (.iload_n 1, 1) := by decide +kernel
theorem dX7_allHeights_2 : decode cX7_allHeights 2 = .ok (.invokevirtual 48, 3) := by decide +kernel
theorem dX7_allHeights_5 : decode cX7_allHeights 5 = .ok (.iconst 0, 1) := by decide +kernel
theorem dX7_allHeights_6 : decode cX7_allHeights 6 = .ok (.istore_n 2, 1) := by decide +kernel
theorem dX7_allHeights_7 : decode cX7_allHeights 7 = .ok (.iconst 0, 1) := by decide +kernel
theorem dX7_allHeights_8 : decode cX7_allHeights 8 = .ok (.istore_n 3, 1) := by decide +kernel
theorem dX7_allHeights_9 : decode cX7_allHeights 9 = .ok (.iload_n 3, 1) := by decide +kernel
theorem dX7_allHeights_10 : decode cX7_allHeights 10 = .ok (.bipush 8, 2) := by decide +kernel
theorem dX7_allHeights_12 : decode cX7_allHeights 12 = .ok (.if_icmp .ge 18, 3) := by decide +kernel
theorem dX7_allHeights_15 : decode cX7_allHeights 15 = .ok (.iload_n 2, 1) := by decide +kernel
theorem dX7_allHeights_16 : decode cX7_allHeights 16 = .ok (.aload_n 0, 1) := by decide +kernel
theorem dX7_allHeights_17 : decode cX7_allHeights 17 = .ok (.getfield 16, 3) := by decide +kernel
theorem dX7_allHeights_20 : decode cX7_allHeights 20 = .ok (.iload_n 3, 1) := by decide +kernel
theorem dX7_allHeights_21 : decode cX7_allHeights 21 = .ok (.iaload, 1) := by decide +kernel
theorem dX7_allHeights_22 : decode cX7_allHeights 22 = .ok (.iadd, 1) := by decide +kernel
theorem dX7_allHeights_23 : decode cX7_allHeights 23 = .ok (.istore_n 2, 1) := by decide +kernel
theorem dX7_allHeights_24 : decode cX7_allHeights 24 = .ok (.iinc 3 1, 3) := by decide +kernel
theorem dX7_allHeights_27 : decode cX7_allHeights 27 = .ok (.goto (-18), 3) := by decide +kernel
theorem dX7_allHeights_30 : decode cX7_allHeights 30 = .ok (.iload_n 2, 1) := by decide +kernel
theorem dX7_allHeights_31 : decode cX7_allHeights 31 = .ok (.ireturn, 1) := by decide +kernel
set_option maxRecDepth 20000 in
theorem ggX7_heightOf_X7_rises : GoodIn wsX7_heightOf wsX7_rises := goodIn_r _ [6, 1, 7, 8, 9, 5, 10, 11, 12, 13, 14, 15, 16, 17, 18, 19, 20, 21, 22, 23, 24, 25, 26, 27, 28, 29, 30, 31, 32, 33, 34, 35, 36, 37, 38, 39, 40, 41, 42] (by decide +kernel) (by decide +kernel)
set_option maxRecDepth 20000 in
theorem gX7_heightOf_X7_rises : GoodIn wsX7_heightOf (wsV RX7 48 RX7 yX7_rises wsX7_rises) := goodIn_app (goodIn_of _ (by decide +kernel)) ggX7_heightOf_X7_rises
theorem dX7_heightOf_0 : decode cX7_heightOf 0 = .ok (.aload_n 0, 1) := by decide +kernel
theorem dX7_heightOf_1 : decode cX7_heightOf 1 = .ok (.iconst 0, 1) := by decide +kernel
theorem dX7_heightOf_2 : decode cX7_heightOf 2 = .ok (.invokevirtual 48, 3) := by decide +kernel
theorem dX7_heightOf_5 : decode cX7_heightOf 5 = .ok (.aload_n 0, 1) := by decide +kernel
theorem dX7_heightOf_6 : decode cX7_heightOf 6 = .ok (.getfield 16, 3) := by decide +kernel
theorem dX7_heightOf_9 : decode cX7_heightOf 9 = .ok (.iload_n 1, 1) := by decide +kernel
theorem dX7_heightOf_10 : decode cX7_heightOf 10 = .ok (.iaload, 1) := by decide +kernel
theorem dX7_heightOf_11 : decode cX7_heightOf 11 = .ok (.ireturn, 1) := by decide +kernel
set_option maxRecDepth 20000 in
theorem ggX7_pull_X7_long1 : GoodIn wsX7_pull wsX7_long1 := goodIn_r _ [6, 7, 24, 25, 26, 27, 28, 29, 30, 31, 32, 33, 34, 35] (by decide +kernel) (by decide +kernel)
set_option maxRecDepth 20000 in
theorem gX7_pull_X7_long1 : GoodIn wsX7_pull (wsV RX7 42 RX7 yX7_long1 wsX7_long1) := goodIn_app (goodIn_of _ (by decide +kernel)) ggX7_pull_X7_long1
set_option maxRecDepth 20000 in
theorem ggX7_pull_X7_isTied : GoodIn wsX7_pull wsX7_isTied := goodIn_r _ [11, 7, 24, 25, 26, 27, 28, 29, 30, 31, 32, 33, 34, 35] (by decide +kernel) (by decide +kernel)
set_option maxRecDepth 20000 in
theorem gX7_pull_X7_isTied : GoodIn wsX7_pull (wsV RX7 38 RX7 yX7_isTied wsX7_isTied) := goodIn_app (goodIn_of _ (by decide +kernel)) ggX7_pull_X7_isTied
set_option maxRecDepth 20000 in
theorem ggX7_pull_X7_wants : GoodIn wsX7_pull wsX7_wants := goodIn_r _ [15, 16, 17, 18, 5, 19, 20, 21, 22, 23, 7, 24, 25, 26, 27, 28, 29, 30, 31, 32, 33, 34, 35] (by decide +kernel) (by decide +kernel)
set_option maxRecDepth 20000 in
theorem gX7_pull_X7_wants : GoodIn wsX7_pull (wsV RX7 35 RX7 yX7_wants wsX7_wants) := goodIn_app (goodIn_of _ (by decide +kernel)) ggX7_pull_X7_wants
theorem dX7_pull_0 : decode cX7_pull 0 = .ok (.aload_n 0, 1) := by decide +kernel
theorem dX7_pull_1 : decode cX7_pull 1 = .ok (.getfield 16, 3) := by decide +kernel
theorem dX7_pull_4 : decode cX7_pull 4 = .ok (.iload_n 2, 1) := by decide +kernel
theorem dX7_pull_5 : decode cX7_pull 5 = .ok (.iaload, 1) := by decide +kernel
theorem dX7_pull_6 : decode cX7_pull 6 = .ok (.aload_n 0, 1) := by decide +kernel
theorem dX7_pull_7 : decode cX7_pull 7 = .ok (.getfield 16, 3) := by decide +kernel
theorem dX7_pull_10 : decode cX7_pull 10 = .ok (.iload_n 2, 1) := by decide +kernel
theorem dX7_pull_11 : decode cX7_pull 11 = .ok (.iconst 1, 1) := by decide +kernel
theorem dX7_pull_12 : decode cX7_pull 12 = .ok (.iadd, 1) := by decide +kernel
theorem dX7_pull_13 : decode cX7_pull 13 = .ok (.iaload, 1) := by decide +kernel
theorem dX7_pull_14 : decode cX7_pull 14 = .ok (.isub, 1) := by decide +kernel
theorem dX7_pull_15 : decode cX7_pull 15 = .ok (.istore_n 3, 1) := by decide +kernel
theorem dX7_pull_16 : decode cX7_pull 16 = .ok (.aload_n 0, 1) := by decide +kernel
theorem dX7_pull_17 : decode cX7_pull 17 = .ok (.iload_n 1, 1) := by decide +kernel
theorem dX7_pull_18 : decode cX7_pull 18 = .ok (.iload_n 2, 1) := by decide +kernel
theorem dX7_pull_19 : decode cX7_pull 19 = .ok (.invokevirtual 42, 3) := by decide +kernel
theorem dX7_pull_22 : decode cX7_pull 22 = .ok (.istore 4, 2) := by decide +kernel
theorem dX7_pull_24 : decode cX7_pull 24 = .ok (.aload_n 0, 1) := by decide +kernel
theorem dX7_pull_25 : decode cX7_pull 25 = .ok (.iload_n 1, 1) := by decide +kernel
theorem dX7_pull_26 : decode cX7_pull 26 = .ok (.iload_n 2, 1) := by decide +kernel
theorem dX7_pull_27 : decode cX7_pull 27 = .ok (.invokevirtual 38, 3) := by decide +kernel
theorem dX7_pull_30 : decode cX7_pull 30 = .ok (.ifCond .eq 16, 3) := by decide +kernel
theorem dX7_pull_33 : decode cX7_pull 33 = .ok (.iload_n 3, 1) := by decide +kernel
theorem dX7_pull_34 : decode cX7_pull 34 = .ok (.iload 4, 2) := by decide +kernel
theorem dX7_pull_36 : decode cX7_pull 36 = .ok (.if_icmp .eq 12, 3) := by decide +kernel
theorem dX7_pull_39 : decode cX7_pull 39 = .ok (.iload_n 3, 1) := by decide +kernel
theorem dX7_pull_40 : decode cX7_pull 40 = .ok (.iload 4, 2) := by decide +kernel
theorem dX7_pull_42 : decode cX7_pull 42 = .ok (.ineg, 1) := by decide +kernel
theorem dX7_pull_43 : decode cX7_pull 43 = .ok (.if_icmp .eq 5, 3) := by decide +kernel
theorem dX7_pull_46 : decode cX7_pull 46 = .ok (.iconst 0, 1) := by decide +kernel
theorem dX7_pull_47 : decode cX7_pull 47 = .ok (.ireturn, 1) := by decide +kernel
theorem dX7_pull_48 : decode cX7_pull 48 = .ok (.iload 4, 2) := by decide +kernel
theorem dX7_pull_50 : decode cX7_pull 50 = .ok (.ifCond .ne 28, 3) := by decide +kernel
theorem dX7_pull_53 : decode cX7_pull 53 = .ok (.aload_n 0, 1) := by decide +kernel
theorem dX7_pull_54 : decode cX7_pull 54 = .ok (.iload_n 1, 1) := by decide +kernel
theorem dX7_pull_55 : decode cX7_pull 55 = .ok (.iload_n 2, 1) := by decide +kernel
theorem dX7_pull_56 : decode cX7_pull 56 = .ok (.iconst 1, 1) := by decide +kernel
theorem dX7_pull_57 : decode cX7_pull 57 = .ok (.iadd, 1) := by decide +kernel
theorem dX7_pull_58 : decode cX7_pull 58 = .ok (.invokevirtual 35, 3) := by decide +kernel
theorem dX7_pull_61 : decode cX7_pull 61 = .ok (.aload_n 0, 1) := by decide +kernel
theorem dX7_pull_62 : decode cX7_pull 62 = .ok (.iload_n 1, 1) := by decide +kernel
theorem dX7_pull_63 : decode cX7_pull 63 = .ok (.iload_n 2, 1) := by decide +kernel
theorem dX7_pull_64 : decode cX7_pull 64 = .ok (.invokevirtual 35, 3) := by decide +kernel
theorem dX7_pull_67 : decode cX7_pull 67 = .ok (.if_icmp .le 7, 3) := by decide +kernel
theorem dX7_pull_70 : decode cX7_pull 70 = .ok (.iconst 1, 1) := by decide +kernel
theorem dX7_pull_71 : decode cX7_pull 71 = .ok (.goto 16, 3) := by decide +kernel
theorem dX7_pull_74 : decode cX7_pull 74 = .ok (.iconst 0, 1) := by decide +kernel
theorem dX7_pull_75 : decode cX7_pull 75 = .ok (.goto 12, 3) := by decide +kernel
theorem dX7_pull_78 : decode cX7_pull 78 = .ok (.iload_n 3, 1) := by decide +kernel
theorem dX7_pull_79 : decode cX7_pull 79 = .ok (.ifCond .ge 7, 3) := by decide +kernel
theorem dX7_pull_82 : decode cX7_pull 82 = .ok (.iconst 1, 1) := by decide +kernel
theorem dX7_pull_83 : decode cX7_pull 83 = .ok (.goto 4, 3) := by decide +kernel
theorem dX7_pull_86 : decode cX7_pull 86 = .ok (.iconst 0, 1) := by decide +kernel
theorem dX7_pull_87 : decode cX7_pull 87 = .ok (.istore 5, 2) := by decide +kernel
theorem dX7_pull_89 : decode cX7_pull 89 = .ok (.iload 5, 2) := by decide +kernel
theorem dX7_pull_91 : decode cX7_pull 91 = .ok (.ifCond .eq 9, 3) := by decide +kernel
theorem dX7_pull_94 : decode cX7_pull 94 = .ok (.iload_n 2, 1) := by decide +kernel
theorem dX7_pull_95 : decode cX7_pull 95 = .ok (.iconst 1, 1) := by decide +kernel
theorem dX7_pull_96 : decode cX7_pull 96 = .ok (.iadd, 1) := by decide +kernel
theorem dX7_pull_97 : decode cX7_pull 97 = .ok (.goto 4, 3) := by decide +kernel
theorem dX7_pull_100 : decode cX7_pull 100 = .ok (.iload_n 2, 1) := by decide +kernel
theorem dX7_pull_101 : decode cX7_pull 101 = .ok (.istore 6, 2) := by decide +kernel
theorem dX7_pull_103 : decode cX7_pull 103 = .ok (.aload_n 0, 1) := by decide +kernel
theorem dX7_pull_104 : decode cX7_pull 104 = .ok (.iload_n 1, 1) := by decide +kernel
theorem dX7_pull_105 : decode cX7_pull 105 = .ok (.iload 6, 2) := by decide +kernel
theorem dX7_pull_107 : decode cX7_pull 107 = .ok (.invokevirtual 35, 3) := by decide +kernel
theorem dX7_pull_110 : decode cX7_pull 110 = .ok (.aload_n 0, 1) := by decide +kernel
theorem dX7_pull_111 : decode cX7_pull 111 = .ok (.getfield 16, 3) := by decide +kernel
theorem dX7_pull_114 : decode cX7_pull 114 = .ok (.iload 6, 2) := by decide +kernel
theorem dX7_pull_116 : decode cX7_pull 116 = .ok (.iaload, 1) := by decide +kernel
theorem dX7_pull_117 : decode cX7_pull 117 = .ok (.isub, 1) := by decide +kernel
theorem dX7_pull_118 : decode cX7_pull 118 = .ok (.ireturn, 1) := by decide +kernel
theorem dX7_bears_0 : decode cX7_bears 0 = .ok (.aload_n 0, 1) := by decide +kernel
theorem dX7_bears_1 : decode cX7_bears 1 = .ok (.getfield 7, 3) := by decide +kernel
theorem dX7_bears_4 : decode cX7_bears 4 = .ok (.iload_n 1, 1) := by decide +kernel
theorem dX7_bears_5 : decode cX7_bears 5 = .ok (.bipush 49, 2) := by decide +kernel
theorem dX7_bears_7 : decode cX7_bears 7 = .ok (.iadd, 1) := by decide +kernel
theorem dX7_bears_8 : decode cX7_bears 8 = .ok (.iconst 3, 1) := by decide +kernel
theorem dX7_bears_9 : decode cX7_bears 9 = .ok (.iload_n 2, 1) := by decide +kernel
theorem dX7_bears_10 : decode cX7_bears 10 = .ok (.imul, 1) := by decide +kernel
theorem dX7_bears_11 : decode cX7_bears 11 = .ok (.iadd, 1) := by decide +kernel
theorem dX7_bears_12 : decode cX7_bears 12 = .ok (.iconst 2, 1) := by decide +kernel
theorem dX7_bears_13 : decode cX7_bears 13 = .ok (.iadd, 1) := by decide +kernel
theorem dX7_bears_14 : decode cX7_bears 14 = .ok (.iaload, 1) := by decide +kernel
theorem dX7_bears_15 : decode cX7_bears 15 = .ok (.ireturn, 1) := by decide +kernel
set_option maxRecDepth 20000 in
theorem ggX7_snapping_X7_rises : GoodIn wsX7_snapping wsX7_rises := goodIn_r _ [5, 6, 7, 8, 9, 4, 10, 11, 12, 13, 14, 15, 16, 17, 18, 19, 20, 21, 22, 23, 24, 25, 26, 27, 28, 29, 30, 39, 40, 41, 42, 43, 44, 45, 46, 47, 48, 49, 50] (by decide +kernel) (by decide +kernel)
set_option maxRecDepth 20000 in
theorem gX7_snapping_X7_rises : GoodIn wsX7_snapping (wsV RX7 48 RX7 yX7_rises wsX7_rises) := goodIn_app (goodIn_of _ (by decide +kernel)) ggX7_snapping_X7_rises
set_option maxRecDepth 20000 in
theorem ggX7_snapping_X7_pull : GoodIn wsX7_snapping wsX7_pull := goodIn_r _ [34, 6, 24, 25, 26, 4, 27, 19, 20, 21, 22, 23, 7, 8, 9, 10, 11, 12, 13, 14, 15, 16, 17, 18, 39, 40, 41, 42, 43, 44, 45, 46, 47, 48, 49, 50] (by decide +kernel) (by decide +kernel)
set_option maxRecDepth 20000 in
theorem gX7_snapping_X7_pull : GoodIn wsX7_snapping (wsV RX7 52 RX7 yX7_pull wsX7_pull) := goodIn_app (goodIn_of _ (by decide +kernel)) ggX7_snapping_X7_pull
set_option maxRecDepth 20000 in
theorem ggX7_snapping_X7_bears : GoodIn wsX7_snapping wsX7_bears := goodIn_r _ [38, 19, 39, 40, 41, 42, 43, 44, 45, 46, 47, 48, 49, 50] (by decide +kernel) (by decide +kernel)
set_option maxRecDepth 20000 in
theorem gX7_snapping_X7_bears : GoodIn wsX7_snapping (wsV RX7 55 RX7 yX7_bears wsX7_bears) := goodIn_app (goodIn_of _ (by decide +kernel)) ggX7_snapping_X7_bears
theorem dX7_snapping_0 : decode cX7_snapping 0 = .ok (.aload_n 0, 1) := by decide +kernel
theorem dX7_snapping_1 : decode cX7_snapping 1 = .ok (.iload_n 1, 1) := by decide +kernel
theorem dX7_snapping_2 : decode cX7_snapping 2 = .ok (.invokevirtual 48, 3) := by decide +kernel
theorem dX7_snapping_5 : decode cX7_snapping 5 = .ok (.sipush (-1000), 3) := by decide +kernel
theorem dX7_snapping_8 : decode cX7_snapping 8 = .ok (.istore_n 2, 1) := by decide +kernel
theorem dX7_snapping_9 : decode cX7_snapping 9 = .ok (.iconst 0, 1) := by decide +kernel
theorem dX7_snapping_10 : decode cX7_snapping 10 = .ok (.istore_n 3, 1) := by decide +kernel
theorem dX7_snapping_11 : decode cX7_snapping 11 = .ok (.iconst 0, 1) := by decide +kernel
theorem dX7_snapping_12 : decode cX7_snapping 12 = .ok (.istore 4, 2) := by decide +kernel
theorem dX7_snapping_14 : decode cX7_snapping 14 = .ok (.iload 4, 2) := by decide +kernel
theorem dX7_snapping_16 : decode cX7_snapping 16 = .ok (.bipush 7, 2) := by decide +kernel
theorem dX7_snapping_18 : decode cX7_snapping 18 = .ok (.if_icmp .ge 67, 3) := by decide +kernel
theorem dX7_snapping_21 : decode cX7_snapping 21 = .ok (.aload_n 0, 1) := by decide +kernel
theorem dX7_snapping_22 : decode cX7_snapping 22 = .ok (.iload_n 1, 1) := by decide +kernel
theorem dX7_snapping_23 : decode cX7_snapping 23 = .ok (.iload 4, 2) := by decide +kernel
theorem dX7_snapping_25 : decode cX7_snapping 25 = .ok (.invokevirtual 52, 3) := by decide +kernel
theorem dX7_snapping_28 : decode cX7_snapping 28 = .ok (.istore 5, 2) := by decide +kernel
theorem dX7_snapping_30 : decode cX7_snapping 30 = .ok (.iload 5, 2) := by decide +kernel
theorem dX7_snapping_32 : decode cX7_snapping 32 = .ok (.aload_n 0, 1) := by decide +kernel
theorem dX7_snapping_33 : decode cX7_snapping 33 = .ok (.iload_n 1, 1) := by decide +kernel
theorem dX7_snapping_34 : decode cX7_snapping 34 = .ok (.iload 4, 2) := by decide +kernel
theorem dX7_snapping_36 : decode cX7_snapping 36 = .ok (.invokevirtual 55, 3) := by decide +kernel
theorem dX7_snapping_39 : decode cX7_snapping 39 = .ok (.if_icmp .le 13, 3) := by decide +kernel
theorem dX7_snapping_42 : decode cX7_snapping 42 = .ok (.iload 5, 2) := by decide +kernel
theorem dX7_snapping_44 : decode cX7_snapping 44 = .ok (.iload_n 3, 1) := by decide +kernel
theorem dX7_snapping_45 : decode cX7_snapping 45 = .ok (.if_icmp .le 7, 3) := by decide +kernel
theorem dX7_snapping_48 : decode cX7_snapping 48 = .ok (.iconst 1, 1) := by decide +kernel
theorem dX7_snapping_49 : decode cX7_snapping 49 = .ok (.goto 4, 3) := by decide +kernel
theorem dX7_snapping_52 : decode cX7_snapping 52 = .ok (.iconst 0, 1) := by decide +kernel
theorem dX7_snapping_53 : decode cX7_snapping 53 = .ok (.istore 6, 2) := by decide +kernel
theorem dX7_snapping_55 : decode cX7_snapping 55 = .ok (.iload 6, 2) := by decide +kernel
theorem dX7_snapping_57 : decode cX7_snapping 57 = .ok (.ifCond .eq 8, 3) := by decide +kernel
theorem dX7_snapping_60 : decode cX7_snapping 60 = .ok (.iload 4, 2) := by decide +kernel
theorem dX7_snapping_62 : decode cX7_snapping 62 = .ok (.goto 4, 3) := by decide +kernel
theorem dX7_snapping_65 : decode cX7_snapping 65 = .ok (.iload_n 2, 1) := by decide +kernel
theorem dX7_snapping_66 : decode cX7_snapping 66 = .ok (.istore_n 2, 1) := by decide +kernel
theorem dX7_snapping_67 : decode cX7_snapping 67 = .ok (.iload 6, 2) := by decide +kernel
theorem dX7_snapping_69 : decode cX7_snapping 69 = .ok (.ifCond .eq 8, 3) := by decide +kernel
theorem dX7_snapping_72 : decode cX7_snapping 72 = .ok (.iload 5, 2) := by decide +kernel
theorem dX7_snapping_74 : decode cX7_snapping 74 = .ok (.goto 4, 3) := by decide +kernel
theorem dX7_snapping_77 : decode cX7_snapping 77 = .ok (.iload_n 3, 1) := by decide +kernel
theorem dX7_snapping_78 : decode cX7_snapping 78 = .ok (.istore_n 3, 1) := by decide +kernel
theorem dX7_snapping_79 : decode cX7_snapping 79 = .ok (.iinc 4 1, 3) := by decide +kernel
theorem dX7_snapping_82 : decode cX7_snapping 82 = .ok (.goto (-68), 3) := by decide +kernel
theorem dX7_snapping_85 : decode cX7_snapping 85 = .ok (.iload_n 2, 1) := by decide +kernel
theorem dX7_snapping_86 : decode cX7_snapping 86 = .ok (.ireturn, 1) := by decide +kernel
set_option maxRecDepth 20000 in
theorem ggX7_hour_X7_of : GoodIn wsX7_hour wsX7_of := goodIn_r _ [6, 1, 47, 48, 49, 50, 51, 52, 53, 54, 55, 56, 57, 58] (by decide +kernel) (by decide +kernel)
set_option maxRecDepth 20000 in
theorem gX7_hour_X7_of : GoodIn wsX7_hour (wsV RX7 27 RX7 yX7_of wsX7_of) := goodIn_app (goodIn_of _ (by decide +kernel)) ggX7_hour_X7_of
set_option maxRecDepth 20000 in
theorem ggX7_hour_X7_lesser : GoodIn wsX7_hour wsX7_lesser := goodIn_r _ [9] (by decide +kernel) (by decide +kernel)
set_option maxRecDepth 20000 in
theorem gX7_hour_X7_lesser : GoodIn wsX7_hour (va_wsS RX7 45 yX7_lesser wsX7_lesser) := goodIn_app (goodIn_of _ (by decide +kernel)) ggX7_hour_X7_lesser
set_option maxRecDepth 20000 in
theorem ggX7_hour_X7_adds : GoodIn wsX7_hour wsX7_adds := goodIn_r _ [13, 1, 47, 48, 49, 50, 51, 52, 53, 54, 55, 56, 57, 58] (by decide +kernel) (by decide +kernel)
set_option maxRecDepth 20000 in
theorem gX7_hour_X7_adds : GoodIn wsX7_hour (wsV RX7 58 RX7 yX7_adds wsX7_adds) := goodIn_app (goodIn_of _ (by decide +kernel)) ggX7_hour_X7_adds
set_option maxRecDepth 20000 in
theorem ggX7_hour_X7_snapping : GoodIn wsX7_hour wsX7_snapping := goodIn_r _ [17, 18, 19, 20, 5, 21, 22, 23, 24, 25, 26, 27, 28, 29, 30, 2, 3, 4, 6, 1, 31, 32, 33, 34, 35, 36, 37, 38, 7, 8, 9, 39, 40, 41, 42, 43, 44, 45, 46, 47, 48, 49, 50, 51, 52, 53, 54, 55, 56, 57, 58] (by decide +kernel) (by decide +kernel)
set_option maxRecDepth 20000 in
theorem gX7_hour_X7_snapping : GoodIn wsX7_hour (wsV RX7 62 RX7 yX7_snapping wsX7_snapping) := goodIn_app (goodIn_of _ (by decide +kernel)) ggX7_hour_X7_snapping
theorem dX7_hour_0 : decode cX7_hour 0 = .ok (.aload_n 0, 1) := by decide +kernel
theorem dX7_hour_1 : decode cX7_hour 1 = .ok (.getfield 7, 3) := by decide +kernel
theorem dX7_hour_4 : decode cX7_hour 4 = .ok (.iload_n 1, 1) := by decide +kernel
theorem dX7_hour_5 : decode cX7_hour 5 = .ok (.iconst 0, 1) := by decide +kernel
theorem dX7_hour_6 : decode cX7_hour 6 = .ok (.iadd, 1) := by decide +kernel
theorem dX7_hour_7 : decode cX7_hour 7 = .ok (.dup2, 1) := by decide +kernel
theorem dX7_hour_8 : decode cX7_hour 8 = .ok (.iaload, 1) := by decide +kernel
theorem dX7_hour_9 : decode cX7_hour 9 = .ok (.iconst 1, 1) := by decide +kernel
theorem dX7_hour_10 : decode cX7_hour 10 = .ok (.iadd, 1) := by decide +kernel
theorem dX7_hour_11 : decode cX7_hour 11 = .ok (.iastore, 1) := by decide +kernel
theorem dX7_hour_12 : decode cX7_hour 12 = .ok (.iconst 0, 1) := by decide +kernel
theorem dX7_hour_13 : decode cX7_hour 13 = .ok (.istore_n 2, 1) := by decide +kernel
theorem dX7_hour_14 : decode cX7_hour 14 = .ok (.iload_n 2, 1) := by decide +kernel
theorem dX7_hour_15 : decode cX7_hour 15 = .ok (.bipush 8, 2) := by decide +kernel
theorem dX7_hour_17 : decode cX7_hour 17 = .ok (.if_icmp .ge 48, 3) := by decide +kernel
theorem dX7_hour_20 : decode cX7_hour 20 = .ok (.aload_n 0, 1) := by decide +kernel
theorem dX7_hour_21 : decode cX7_hour 21 = .ok (.iload_n 1, 1) := by decide +kernel
theorem dX7_hour_22 : decode cX7_hour 22 = .ok (.iload_n 2, 1) := by decide +kernel
theorem dX7_hour_23 : decode cX7_hour 23 = .ok (.iconst 2, 1) := by decide +kernel
theorem dX7_hour_24 : decode cX7_hour 24 = .ok (.invokevirtual 27, 3) := by decide +kernel
theorem dX7_hour_27 : decode cX7_hour 27 = .ok (.aload_n 0, 1) := by decide +kernel
theorem dX7_hour_28 : decode cX7_hour 28 = .ok (.iload_n 1, 1) := by decide +kernel
theorem dX7_hour_29 : decode cX7_hour 29 = .ok (.iload_n 2, 1) := by decide +kernel
theorem dX7_hour_30 : decode cX7_hour 30 = .ok (.iconst 0, 1) := by decide +kernel
theorem dX7_hour_31 : decode cX7_hour 31 = .ok (.invokevirtual 27, 3) := by decide +kernel
theorem dX7_hour_34 : decode cX7_hour 34 = .ok (.invokestatic 45, 3) := by decide +kernel
theorem dX7_hour_37 : decode cX7_hour 37 = .ok (.istore_n 3, 1) := by decide +kernel
theorem dX7_hour_38 : decode cX7_hour 38 = .ok (.aload_n 0, 1) := by decide +kernel
theorem dX7_hour_39 : decode cX7_hour 39 = .ok (.iload_n 1, 1) := by decide +kernel
theorem dX7_hour_40 : decode cX7_hour 40 = .ok (.iload_n 2, 1) := by decide +kernel
theorem dX7_hour_41 : decode cX7_hour 41 = .ok (.iconst 0, 1) := by decide +kernel
theorem dX7_hour_42 : decode cX7_hour 42 = .ok (.iload_n 3, 1) := by decide +kernel
theorem dX7_hour_43 : decode cX7_hour 43 = .ok (.ineg, 1) := by decide +kernel
theorem dX7_hour_44 : decode cX7_hour 44 = .ok (.invokevirtual 58, 3) := by decide +kernel
theorem dX7_hour_47 : decode cX7_hour 47 = .ok (.aload_n 0, 1) := by decide +kernel
theorem dX7_hour_48 : decode cX7_hour 48 = .ok (.getfield 7, 3) := by decide +kernel
theorem dX7_hour_51 : decode cX7_hour 51 = .ok (.iload_n 1, 1) := by decide +kernel
theorem dX7_hour_52 : decode cX7_hour 52 = .ok (.iconst 2, 1) := by decide +kernel
theorem dX7_hour_53 : decode cX7_hour 53 = .ok (.iadd, 1) := by decide +kernel
theorem dX7_hour_54 : decode cX7_hour 54 = .ok (.dup2, 1) := by decide +kernel
theorem dX7_hour_55 : decode cX7_hour 55 = .ok (.iaload, 1) := by decide +kernel
theorem dX7_hour_56 : decode cX7_hour 56 = .ok (.iload_n 3, 1) := by decide +kernel
theorem dX7_hour_57 : decode cX7_hour 57 = .ok (.iadd, 1) := by decide +kernel
theorem dX7_hour_58 : decode cX7_hour 58 = .ok (.iastore, 1) := by decide +kernel
theorem dX7_hour_59 : decode cX7_hour 59 = .ok (.iinc 2 1, 3) := by decide +kernel
theorem dX7_hour_62 : decode cX7_hour 62 = .ok (.goto (-48), 3) := by decide +kernel
theorem dX7_hour_65 : decode cX7_hour 65 = .ok (.aload_n 0, 1) := by decide +kernel
theorem dX7_hour_66 : decode cX7_hour 66 = .ok (.iload_n 1, 1) := by decide +kernel
theorem dX7_hour_67 : decode cX7_hour 67 = .ok (.invokevirtual 62, 3) := by decide +kernel
theorem dX7_hour_70 : decode cX7_hour 70 = .ok (.istore_n 2, 1) := by decide +kernel
theorem dX7_hour_71 : decode cX7_hour 71 = .ok (.iload_n 2, 1) := by decide +kernel
theorem dX7_hour_72 : decode cX7_hour 72 = .ok (.sipush (-1000), 3) := by decide +kernel
theorem dX7_hour_75 : decode cX7_hour 75 = .ok (.if_icmp .ne 5, 3) := by decide +kernel
theorem dX7_hour_78 : decode cX7_hour 78 = .ok (.iconst 0, 1) := by decide +kernel
theorem dX7_hour_79 : decode cX7_hour 79 = .ok (.ireturn, 1) := by decide +kernel
theorem dX7_hour_80 : decode cX7_hour 80 = .ok (.aload_n 0, 1) := by decide +kernel
theorem dX7_hour_81 : decode cX7_hour 81 = .ok (.getfield 7, 3) := by decide +kernel
theorem dX7_hour_84 : decode cX7_hour 84 = .ok (.iload_n 1, 1) := by decide +kernel
theorem dX7_hour_85 : decode cX7_hour 85 = .ok (.bipush 49, 2) := by decide +kernel
theorem dX7_hour_87 : decode cX7_hour 87 = .ok (.iadd, 1) := by decide +kernel
theorem dX7_hour_88 : decode cX7_hour 88 = .ok (.iconst 3, 1) := by decide +kernel
theorem dX7_hour_89 : decode cX7_hour 89 = .ok (.iload_n 2, 1) := by decide +kernel
theorem dX7_hour_90 : decode cX7_hour 90 = .ok (.imul, 1) := by decide +kernel
theorem dX7_hour_91 : decode cX7_hour 91 = .ok (.iadd, 1) := by decide +kernel
theorem dX7_hour_92 : decode cX7_hour 92 = .ok (.iconst 0, 1) := by decide +kernel
theorem dX7_hour_93 : decode cX7_hour 93 = .ok (.iastore, 1) := by decide +kernel
theorem dX7_hour_94 : decode cX7_hour 94 = .ok (.aload_n 0, 1) := by decide +kernel
theorem dX7_hour_95 : decode cX7_hour 95 = .ok (.getfield 7, 3) := by decide +kernel
theorem dX7_hour_98 : decode cX7_hour 98 = .ok (.iload_n 1, 1) := by decide +kernel
theorem dX7_hour_99 : decode cX7_hour 99 = .ok (.iconst 4, 1) := by decide +kernel
theorem dX7_hour_100 : decode cX7_hour 100 = .ok (.iadd, 1) := by decide +kernel
theorem dX7_hour_101 : decode cX7_hour 101 = .ok (.dup2, 1) := by decide +kernel
theorem dX7_hour_102 : decode cX7_hour 102 = .ok (.iaload, 1) := by decide +kernel
theorem dX7_hour_103 : decode cX7_hour 103 = .ok (.iconst 1, 1) := by decide +kernel
theorem dX7_hour_104 : decode cX7_hour 104 = .ok (.iadd, 1) := by decide +kernel
theorem dX7_hour_105 : decode cX7_hour 105 = .ok (.iastore, 1) := by decide +kernel
theorem dX7_hour_106 : decode cX7_hour 106 = .ok (.iconst 1, 1) := by decide +kernel
theorem dX7_hour_107 : decode cX7_hour 107 = .ok (.ireturn, 1) := by decide +kernel
set_option maxRecDepth 20000 in
theorem ggX7_passes_X7_hour : GoodIn wsX7_passes wsX7_hour := goodIn_r _ [5, 6, 7, 8, 9, 4, 10, 11, 12, 13, 14, 15, 16, 17, 18, 19, 20, 21, 22, 23, 24, 25, 26, 27, 28, 29, 30, 31, 32, 33, 34, 35, 36, 37, 38, 39, 40, 41, 42, 43, 44, 45, 46, 47, 48, 49, 50, 51, 52, 53, 54, 55, 56, 57, 58, 59, 60, 61, 62] (by decide +kernel) (by decide +kernel)
set_option maxRecDepth 20000 in
theorem gX7_passes_X7_hour : GoodIn wsX7_passes (wsV RX7 66 RX7 yX7_hour wsX7_hour) := goodIn_app (goodIn_of _ (by decide +kernel)) ggX7_passes_X7_hour
theorem dX7_passes_0 : decode cX7_passes 0 = .ok (.iconst 0, 1) := by decide +kernel
theorem dX7_passes_1 : decode cX7_passes 1 = .ok (.istore_n 2, 1) := by decide +kernel
theorem dX7_passes_2 : decode cX7_passes 2 = .ok (.iconst 0, 1) := by decide +kernel
theorem dX7_passes_3 : decode cX7_passes 3 = .ok (.istore_n 3, 1) := by decide +kernel
theorem dX7_passes_4 : decode cX7_passes 4 = .ok (.iload_n 3, 1) := by decide +kernel
theorem dX7_passes_5 : decode cX7_passes 5 = .ok (.iload_n 1, 1) := by decide +kernel
theorem dX7_passes_6 : decode cX7_passes 6 = .ok (.if_icmp .ge 17, 3) := by decide +kernel
theorem dX7_passes_9 : decode cX7_passes 9 = .ok (.iload_n 2, 1) := by decide +kernel
theorem dX7_passes_10 : decode cX7_passes 10 = .ok (.aload_n 0, 1) := by decide +kernel
theorem dX7_passes_11 : decode cX7_passes 11 = .ok (.iconst 0, 1) := by decide +kernel
theorem dX7_passes_12 : decode cX7_passes 12 = .ok (.invokevirtual 66, 3) := by decide +kernel
theorem dX7_passes_15 : decode cX7_passes 15 = .ok (.iadd, 1) := by decide +kernel
theorem dX7_passes_16 : decode cX7_passes 16 = .ok (.istore_n 2, 1) := by decide +kernel
theorem dX7_passes_17 : decode cX7_passes 17 = .ok (.iinc 3 1, 3) := by decide +kernel
theorem dX7_passes_20 : decode cX7_passes 20 = .ok (.goto (-16), 3) := by decide +kernel
theorem dX7_passes_23 : decode cX7_passes 23 = .ok (.iload_n 2, 1) := by decide +kernel
theorem dX7_passes_24 : decode cX7_passes 24 = .ok (.ireturn, 1) := by decide +kernel
set_option maxRecDepth 20000 in
theorem ggX7_noFill_X7_of : GoodIn wsX7_noFill wsX7_of := goodIn_r _ [5, 6, 35, 36, 37, 38, 39, 40, 41, 42, 43, 44, 45, 46] (by decide +kernel) (by decide +kernel)
set_option maxRecDepth 20000 in
theorem gX7_noFill_X7_of : GoodIn wsX7_noFill (wsV RX7 27 RX7 yX7_of wsX7_of) := goodIn_app (goodIn_of _ (by decide +kernel)) ggX7_noFill_X7_of
set_option maxRecDepth 20000 in
theorem ggX7_noFill_X7_heightOf : GoodIn wsX7_noFill wsX7_heightOf := goodIn_r _ [10, 11, 12, 13, 14, 4, 15, 16, 17, 18, 19, 20, 21, 22, 23, 1, 2, 3, 5, 6, 24, 25, 26, 27, 28, 29, 30, 31, 32, 33, 34, 35, 36, 37, 38, 39, 40, 41, 42, 43, 44, 45, 46] (by decide +kernel) (by decide +kernel)
set_option maxRecDepth 20000 in
theorem gX7_noFill_X7_heightOf : GoodIn wsX7_noFill (wsV RX7 69 RX7 yX7_heightOf wsX7_heightOf) := goodIn_app (goodIn_of _ (by decide +kernel)) ggX7_noFill_X7_heightOf
theorem dX7_noFill_0 : decode cX7_noFill 0 = .ok (.aload_n 0, 1) := by decide +kernel
theorem dX7_noFill_1 : decode cX7_noFill 1 = .ok (.iconst 0, 1) := by decide +kernel
theorem dX7_noFill_2 : decode cX7_noFill 2 = .ok (.iload_n 1, 1) := by decide +kernel
theorem dX7_noFill_3 : decode cX7_noFill 3 = .ok (.iconst 0, 1) := by decide +kernel
theorem dX7_noFill_4 : decode cX7_noFill 4 = .ok (.invokevirtual 27, 3) := by decide +kernel
theorem dX7_noFill_7 : decode cX7_noFill 7 = .ok (.iload_n 2, 1) := by decide +kernel
theorem dX7_noFill_8 : decode cX7_noFill 8 = .ok (.iadd, 1) := by decide +kernel
theorem dX7_noFill_9 : decode cX7_noFill 9 = .ok (.sipush 200, 3) := by decide +kernel
theorem dX7_noFill_12 : decode cX7_noFill 12 = .ok (.if_icmp .le 7, 3) := by decide +kernel
theorem dX7_noFill_15 : decode cX7_noFill 15 = .ok (.iconst 1, 1) := by decide +kernel
theorem dX7_noFill_16 : decode cX7_noFill 16 = .ok (.goto 16, 3) := by decide +kernel
theorem dX7_noFill_19 : decode cX7_noFill 19 = .ok (.aload_n 0, 1) := by decide +kernel
theorem dX7_noFill_20 : decode cX7_noFill 20 = .ok (.iload_n 1, 1) := by decide +kernel
theorem dX7_noFill_21 : decode cX7_noFill 21 = .ok (.invokevirtual 69, 3) := by decide +kernel
theorem dX7_noFill_24 : decode cX7_noFill 24 = .ok (.ifCond .le 7, 3) := by decide +kernel
theorem dX7_noFill_27 : decode cX7_noFill 27 = .ok (.iconst 2, 1) := by decide +kernel
theorem dX7_noFill_28 : decode cX7_noFill 28 = .ok (.goto 4, 3) := by decide +kernel
theorem dX7_noFill_31 : decode cX7_noFill 31 = .ok (.iconst 0, 1) := by decide +kernel
theorem dX7_noFill_32 : decode cX7_noFill 32 = .ok (.ireturn, 1) := by decide +kernel
set_option maxRecDepth 20000 in
theorem ggX7_noVent_X7_of : GoodIn wsX7_noVent wsX7_of := goodIn_r _ [5, 6, 7, 8, 9, 10, 11, 12, 13, 14, 15, 16, 17, 18] (by decide +kernel) (by decide +kernel)
set_option maxRecDepth 20000 in
theorem gX7_noVent_X7_of : GoodIn wsX7_noVent (wsV RX7 27 RX7 yX7_of wsX7_of) := goodIn_app (goodIn_of _ (by decide +kernel)) ggX7_noVent_X7_of
theorem dX7_noVent_0 : decode cX7_noVent 0 = .ok (.aload_n 0, 1) := by decide +kernel
theorem dX7_noVent_1 : decode cX7_noVent 1 = .ok (.iconst 0, 1) := by decide +kernel
theorem dX7_noVent_2 : decode cX7_noVent 2 = .ok (.iload_n 1, 1) := by decide +kernel
theorem dX7_noVent_3 : decode cX7_noVent 3 = .ok (.iconst 0, 1) := by decide +kernel
theorem dX7_noVent_4 : decode cX7_noVent 4 = .ok (.invokevirtual 27, 3) := by decide +kernel
theorem dX7_noVent_7 : decode cX7_noVent 7 = .ok (.iload_n 2, 1) := by decide +kernel
theorem dX7_noVent_8 : decode cX7_noVent 8 = .ok (.if_icmp .ge 7, 3) := by decide +kernel
theorem dX7_noVent_11 : decode cX7_noVent 11 = .ok (.iconst 3, 1) := by decide +kernel
theorem dX7_noVent_12 : decode cX7_noVent 12 = .ok (.goto 4, 3) := by decide +kernel
theorem dX7_noVent_15 : decode cX7_noVent 15 = .ok (.iconst 0, 1) := by decide +kernel
theorem dX7_noVent_16 : decode cX7_noVent 16 = .ok (.ireturn, 1) := by decide +kernel
set_option maxRecDepth 20000 in
theorem ggX7_noDrop_X7_of : GoodIn wsX7_noDrop wsX7_of := goodIn_r _ [5, 6, 7, 8, 9, 10, 11, 12, 13, 14, 15, 16, 17, 18] (by decide +kernel) (by decide +kernel)
set_option maxRecDepth 20000 in
theorem gX7_noDrop_X7_of : GoodIn wsX7_noDrop (wsV RX7 27 RX7 yX7_of wsX7_of) := goodIn_app (goodIn_of _ (by decide +kernel)) ggX7_noDrop_X7_of
theorem dX7_noDrop_0 : decode cX7_noDrop 0 = .ok (.aload_n 0, 1) := by decide +kernel
theorem dX7_noDrop_1 : decode cX7_noDrop 1 = .ok (.iconst 0, 1) := by decide +kernel
theorem dX7_noDrop_2 : decode cX7_noDrop 2 = .ok (.iload_n 1, 1) := by decide +kernel
theorem dX7_noDrop_3 : decode cX7_noDrop 3 = .ok (.iconst 1, 1) := by decide +kernel
theorem dX7_noDrop_4 : decode cX7_noDrop 4 = .ok (.invokevirtual 27, 3) := by decide +kernel
theorem dX7_noDrop_7 : decode cX7_noDrop 7 = .ok (.ifCond .ne 7, 3) := by decide +kernel
theorem dX7_noDrop_10 : decode cX7_noDrop 10 = .ok (.iconst 4, 1) := by decide +kernel
theorem dX7_noDrop_11 : decode cX7_noDrop 11 = .ok (.goto 4, 3) := by decide +kernel
theorem dX7_noDrop_14 : decode cX7_noDrop 14 = .ok (.iconst 0, 1) := by decide +kernel
theorem dX7_noDrop_15 : decode cX7_noDrop 15 = .ok (.ireturn, 1) := by decide +kernel
set_option maxRecDepth 20000 in
theorem ggX7_noPut_X7_of : GoodIn wsX7_noPut wsX7_of := goodIn_r _ [5, 6, 35, 36, 37, 38, 39, 40, 41, 42, 43, 44, 45, 46] (by decide +kernel) (by decide +kernel)
set_option maxRecDepth 20000 in
theorem gX7_noPut_X7_of : GoodIn wsX7_noPut (wsV RX7 27 RX7 yX7_of wsX7_of) := goodIn_app (goodIn_of _ (by decide +kernel)) ggX7_noPut_X7_of
set_option maxRecDepth 20000 in
theorem ggX7_noPut_X7_heightOf : GoodIn wsX7_noPut wsX7_heightOf := goodIn_r _ [10, 11, 12, 13, 14, 4, 15, 16, 17, 18, 19, 20, 21, 22, 23, 1, 2, 3, 5, 6, 24, 25, 26, 27, 28, 29, 30, 31, 32, 33, 34, 35, 36, 37, 38, 39, 40, 41, 42, 43, 44, 45, 46] (by decide +kernel) (by decide +kernel)
set_option maxRecDepth 20000 in
theorem gX7_noPut_X7_heightOf : GoodIn wsX7_noPut (wsV RX7 69 RX7 yX7_heightOf wsX7_heightOf) := goodIn_app (goodIn_of _ (by decide +kernel)) ggX7_noPut_X7_heightOf
theorem dX7_noPut_0 : decode cX7_noPut 0 = .ok (.aload_n 0, 1) := by decide +kernel
theorem dX7_noPut_1 : decode cX7_noPut 1 = .ok (.iconst 0, 1) := by decide +kernel
theorem dX7_noPut_2 : decode cX7_noPut 2 = .ok (.iload_n 1, 1) := by decide +kernel
theorem dX7_noPut_3 : decode cX7_noPut 3 = .ok (.iconst 1, 1) := by decide +kernel
theorem dX7_noPut_4 : decode cX7_noPut 4 = .ok (.invokevirtual 27, 3) := by decide +kernel
theorem dX7_noPut_7 : decode cX7_noPut 7 = .ok (.bipush 10, 2) := by decide +kernel
theorem dX7_noPut_9 : decode cX7_noPut 9 = .ok (.if_icmp .ne 7, 3) := by decide +kernel
theorem dX7_noPut_12 : decode cX7_noPut 12 = .ok (.iconst 5, 1) := by decide +kernel
theorem dX7_noPut_13 : decode cX7_noPut 13 = .ok (.goto 17, 3) := by decide +kernel
theorem dX7_noPut_16 : decode cX7_noPut 16 = .ok (.aload_n 0, 1) := by decide +kernel
theorem dX7_noPut_17 : decode cX7_noPut 17 = .ok (.iload_n 1, 1) := by decide +kernel
theorem dX7_noPut_18 : decode cX7_noPut 18 = .ok (.invokevirtual 69, 3) := by decide +kernel
theorem dX7_noPut_21 : decode cX7_noPut 21 = .ok (.ifCond .le 8, 3) := by decide +kernel
theorem dX7_noPut_24 : decode cX7_noPut 24 = .ok (.bipush 6, 2) := by decide +kernel
theorem dX7_noPut_26 : decode cX7_noPut 26 = .ok (.goto 4, 3) := by decide +kernel
theorem dX7_noPut_29 : decode cX7_noPut 29 = .ok (.iconst 0, 1) := by decide +kernel
theorem dX7_noPut_30 : decode cX7_noPut 30 = .ok (.ireturn, 1) := by decide +kernel
set_option maxRecDepth 20000 in
theorem ggX7_noTie_X7_isTied : GoodIn wsX7_noTie wsX7_isTied := goodIn_r _ [6, 7, 34, 35, 36, 37, 38, 39, 40, 41, 42, 43, 44, 45] (by decide +kernel) (by decide +kernel)
set_option maxRecDepth 20000 in
theorem gX7_noTie_X7_isTied : GoodIn wsX7_noTie (wsV RX7 38 RX7 yX7_isTied wsX7_isTied) := goodIn_app (goodIn_of _ (by decide +kernel)) ggX7_noTie_X7_isTied
set_option maxRecDepth 20000 in
theorem ggX7_noTie_X7_rises : GoodIn wsX7_noTie wsX7_rises := goodIn_r _ [11, 1, 12, 13, 14, 5, 15, 16, 17, 18, 19, 20, 21, 22, 23, 7, 2, 3, 4, 6, 24, 25, 26, 27, 28, 29, 30, 34, 35, 36, 37, 38, 39, 40, 41, 42, 43, 44, 45] (by decide +kernel) (by decide +kernel)
set_option maxRecDepth 20000 in
theorem gX7_noTie_X7_rises : GoodIn wsX7_noTie (wsV RX7 48 RX7 yX7_rises wsX7_rises) := goodIn_app (goodIn_of _ (by decide +kernel)) ggX7_noTie_X7_rises
set_option maxRecDepth 20000 in
theorem ggX7_noTie_X7_in : GoodIn wsX7_noTie wsX7_in := goodIn_r _ [33] (by decide +kernel) (by decide +kernel)
set_option maxRecDepth 20000 in
theorem gX7_noTie_X7_in : GoodIn wsX7_noTie (va_wsS RX7 23 yX7_in wsX7_in) := goodIn_app (goodIn_of _ (by decide +kernel)) ggX7_noTie_X7_in
theorem dX7_noTie_0 : decode cX7_noTie 0 = .ok (.aload_n 0, 1) := by decide +kernel
theorem dX7_noTie_1 : decode cX7_noTie 1 = .ok (.iconst 0, 1) := by decide +kernel
theorem dX7_noTie_2 : decode cX7_noTie 2 = .ok (.iload_n 1, 1) := by decide +kernel
theorem dX7_noTie_3 : decode cX7_noTie 3 = .ok (.invokevirtual 38, 3) := by decide +kernel
theorem dX7_noTie_6 : decode cX7_noTie 6 = .ok (.ifCond .eq 6, 3) := by decide +kernel
theorem dX7_noTie_9 : decode cX7_noTie 9 = .ok (.bipush 7, 2) := by decide +kernel
theorem dX7_noTie_11 : decode cX7_noTie 11 = .ok (.ireturn, 1) := by decide +kernel
theorem dX7_noTie_12 : decode cX7_noTie 12 = .ok (.aload_n 0, 1) := by decide +kernel
theorem dX7_noTie_13 : decode cX7_noTie 13 = .ok (.iconst 0, 1) := by decide +kernel
theorem dX7_noTie_14 : decode cX7_noTie 14 = .ok (.invokevirtual 48, 3) := by decide +kernel
theorem dX7_noTie_17 : decode cX7_noTie 17 = .ok (.aload_n 0, 1) := by decide +kernel
theorem dX7_noTie_18 : decode cX7_noTie 18 = .ok (.getfield 16, 3) := by decide +kernel
theorem dX7_noTie_21 : decode cX7_noTie 21 = .ok (.iload_n 1, 1) := by decide +kernel
theorem dX7_noTie_22 : decode cX7_noTie 22 = .ok (.iaload, 1) := by decide +kernel
theorem dX7_noTie_23 : decode cX7_noTie 23 = .ok (.aload_n 0, 1) := by decide +kernel
theorem dX7_noTie_24 : decode cX7_noTie 24 = .ok (.getfield 16, 3) := by decide +kernel
theorem dX7_noTie_27 : decode cX7_noTie 27 = .ok (.iload_n 1, 1) := by decide +kernel
theorem dX7_noTie_28 : decode cX7_noTie 28 = .ok (.iconst 1, 1) := by decide +kernel
theorem dX7_noTie_29 : decode cX7_noTie 29 = .ok (.iadd, 1) := by decide +kernel
theorem dX7_noTie_30 : decode cX7_noTie 30 = .ok (.iaload, 1) := by decide +kernel
theorem dX7_noTie_31 : decode cX7_noTie 31 = .ok (.isub, 1) := by decide +kernel
theorem dX7_noTie_32 : decode cX7_noTie 32 = .ok (.iload_n 2, 1) := by decide +kernel
theorem dX7_noTie_33 : decode cX7_noTie 33 = .ok (.ineg, 1) := by decide +kernel
theorem dX7_noTie_34 : decode cX7_noTie 34 = .ok (.iload_n 2, 1) := by decide +kernel
theorem dX7_noTie_35 : decode cX7_noTie 35 = .ok (.invokestatic 23, 3) := by decide +kernel
theorem dX7_noTie_38 : decode cX7_noTie 38 = .ok (.ifCond .eq 7, 3) := by decide +kernel
theorem dX7_noTie_41 : decode cX7_noTie 41 = .ok (.iconst 0, 1) := by decide +kernel
theorem dX7_noTie_42 : decode cX7_noTie 42 = .ok (.goto 5, 3) := by decide +kernel
theorem dX7_noTie_45 : decode cX7_noTie 45 = .ok (.bipush 8, 2) := by decide +kernel
theorem dX7_noTie_47 : decode cX7_noTie 47 = .ok (.ireturn, 1) := by decide +kernel
set_option maxRecDepth 20000 in
theorem ggX7_noCut_X7_isTied : GoodIn wsX7_noCut wsX7_isTied := goodIn_r _ [5, 6, 7, 8, 9, 10, 11, 12, 13, 14, 15, 16, 17, 18] (by decide +kernel) (by decide +kernel)
set_option maxRecDepth 20000 in
theorem gX7_noCut_X7_isTied : GoodIn wsX7_noCut (wsV RX7 38 RX7 yX7_isTied wsX7_isTied) := goodIn_app (goodIn_of _ (by decide +kernel)) ggX7_noCut_X7_isTied
theorem dX7_noCut_0 : decode cX7_noCut 0 = .ok (.aload_n 0, 1) := by decide +kernel
theorem dX7_noCut_1 : decode cX7_noCut 1 = .ok (.iconst 0, 1) := by decide +kernel
theorem dX7_noCut_2 : decode cX7_noCut 2 = .ok (.iload_n 1, 1) := by decide +kernel
theorem dX7_noCut_3 : decode cX7_noCut 3 = .ok (.invokevirtual 38, 3) := by decide +kernel
theorem dX7_noCut_6 : decode cX7_noCut 6 = .ok (.ifCond .eq 7, 3) := by decide +kernel
theorem dX7_noCut_9 : decode cX7_noCut 9 = .ok (.iconst 0, 1) := by decide +kernel
theorem dX7_noCut_10 : decode cX7_noCut 10 = .ok (.goto 5, 3) := by decide +kernel
theorem dX7_noCut_13 : decode cX7_noCut 13 = .ok (.bipush 9, 2) := by decide +kernel
theorem dX7_noCut_15 : decode cX7_noCut 15 = .ok (.ireturn, 1) := by decide +kernel
set_option maxRecDepth 20000 in
theorem ggX7_fills_X7_adds : GoodIn wsX7_fills wsX7_adds := goodIn_r _ [6, 1, 11, 12, 13, 14, 15, 16, 17, 18, 19, 20, 21, 22] (by decide +kernel) (by decide +kernel)
set_option maxRecDepth 20000 in
theorem gX7_fills_X7_adds : GoodIn wsX7_fills (wsV RX7 58 RX7 yX7_adds wsX7_adds) := goodIn_app (goodIn_of _ (by decide +kernel)) ggX7_fills_X7_adds
set_option maxRecDepth 20000 in
theorem ggX7_fills_X7_of : GoodIn wsX7_fills wsX7_of := goodIn_r _ [10, 1, 11, 12, 13, 14, 15, 16, 17, 18, 19, 20, 21, 22] (by decide +kernel) (by decide +kernel)
set_option maxRecDepth 20000 in
theorem gX7_fills_X7_of : GoodIn wsX7_fills (wsV RX7 27 RX7 yX7_of wsX7_of) := goodIn_app (goodIn_of _ (by decide +kernel)) ggX7_fills_X7_of
theorem dX7_fills_0 : decode cX7_fills 0 = .ok (.aload_n 0, 1) := by decide +kernel
theorem dX7_fills_1 : decode cX7_fills 1 = .ok (.iconst 0, 1) := by decide +kernel
theorem dX7_fills_2 : decode cX7_fills 2 = .ok (.iload_n 1, 1) := by decide +kernel
theorem dX7_fills_3 : decode cX7_fills 3 = .ok (.iconst 0, 1) := by decide +kernel
theorem dX7_fills_4 : decode cX7_fills 4 = .ok (.iload_n 2, 1) := by decide +kernel
theorem dX7_fills_5 : decode cX7_fills 5 = .ok (.invokevirtual 58, 3) := by decide +kernel
theorem dX7_fills_8 : decode cX7_fills 8 = .ok (.aload_n 0, 1) := by decide +kernel
theorem dX7_fills_9 : decode cX7_fills 9 = .ok (.getfield 7, 3) := by decide +kernel
theorem dX7_fills_12 : decode cX7_fills 12 = .ok (.iconst 1, 1) := by decide +kernel
theorem dX7_fills_13 : decode cX7_fills 13 = .ok (.dup2, 1) := by decide +kernel
theorem dX7_fills_14 : decode cX7_fills 14 = .ok (.iaload, 1) := by decide +kernel
theorem dX7_fills_15 : decode cX7_fills 15 = .ok (.iload_n 2, 1) := by decide +kernel
theorem dX7_fills_16 : decode cX7_fills 16 = .ok (.iadd, 1) := by decide +kernel
theorem dX7_fills_17 : decode cX7_fills 17 = .ok (.iastore, 1) := by decide +kernel
theorem dX7_fills_18 : decode cX7_fills 18 = .ok (.aload_n 0, 1) := by decide +kernel
theorem dX7_fills_19 : decode cX7_fills 19 = .ok (.iconst 0, 1) := by decide +kernel
theorem dX7_fills_20 : decode cX7_fills 20 = .ok (.iload_n 1, 1) := by decide +kernel
theorem dX7_fills_21 : decode cX7_fills 21 = .ok (.iconst 0, 1) := by decide +kernel
theorem dX7_fills_22 : decode cX7_fills 22 = .ok (.invokevirtual 27, 3) := by decide +kernel
theorem dX7_fills_25 : decode cX7_fills 25 = .ok (.ireturn, 1) := by decide +kernel
set_option maxRecDepth 20000 in
theorem ggX7_vents_X7_adds : GoodIn wsX7_vents wsX7_adds := goodIn_r _ [6, 1, 39, 40, 41, 42, 43, 44, 45, 46, 47, 48, 49, 50] (by decide +kernel) (by decide +kernel)
set_option maxRecDepth 20000 in
theorem gX7_vents_X7_adds : GoodIn wsX7_vents (wsV RX7 58 RX7 yX7_adds wsX7_adds) := goodIn_app (goodIn_of _ (by decide +kernel)) ggX7_vents_X7_adds
set_option maxRecDepth 20000 in
theorem ggX7_vents_X7_heightOf : GoodIn wsX7_vents wsX7_heightOf := goodIn_r _ [10, 11, 12, 13, 14, 5, 15, 16, 17, 18, 19, 20, 21, 22, 23, 24, 25, 26, 27, 1, 28, 29, 30, 31, 32, 33, 34, 35, 36, 37, 38, 39, 40, 41, 42, 43, 44, 45, 46, 47, 48, 49, 50] (by decide +kernel) (by decide +kernel)
set_option maxRecDepth 20000 in
theorem gX7_vents_X7_heightOf : GoodIn wsX7_vents (wsV RX7 69 RX7 yX7_heightOf wsX7_heightOf) := goodIn_app (goodIn_of _ (by decide +kernel)) ggX7_vents_X7_heightOf
theorem dX7_vents_0 : decode cX7_vents 0 = .ok (.aload_n 0, 1) := by decide +kernel
theorem dX7_vents_1 : decode cX7_vents 1 = .ok (.iconst 0, 1) := by decide +kernel
theorem dX7_vents_2 : decode cX7_vents 2 = .ok (.iload_n 1, 1) := by decide +kernel
theorem dX7_vents_3 : decode cX7_vents 3 = .ok (.iconst 0, 1) := by decide +kernel
theorem dX7_vents_4 : decode cX7_vents 4 = .ok (.iload_n 2, 1) := by decide +kernel
theorem dX7_vents_5 : decode cX7_vents 5 = .ok (.ineg, 1) := by decide +kernel
theorem dX7_vents_6 : decode cX7_vents 6 = .ok (.invokevirtual 58, 3) := by decide +kernel
theorem dX7_vents_9 : decode cX7_vents 9 = .ok (.aload_n 0, 1) := by decide +kernel
theorem dX7_vents_10 : decode cX7_vents 10 = .ok (.getfield 7, 3) := by decide +kernel
theorem dX7_vents_13 : decode cX7_vents 13 = .ok (.iconst 3, 1) := by decide +kernel
theorem dX7_vents_14 : decode cX7_vents 14 = .ok (.dup2, 1) := by decide +kernel
theorem dX7_vents_15 : decode cX7_vents 15 = .ok (.iaload, 1) := by decide +kernel
theorem dX7_vents_16 : decode cX7_vents 16 = .ok (.iload_n 2, 1) := by decide +kernel
theorem dX7_vents_17 : decode cX7_vents 17 = .ok (.iadd, 1) := by decide +kernel
theorem dX7_vents_18 : decode cX7_vents 18 = .ok (.iastore, 1) := by decide +kernel
theorem dX7_vents_19 : decode cX7_vents 19 = .ok (.aload_n 0, 1) := by decide +kernel
theorem dX7_vents_20 : decode cX7_vents 20 = .ok (.iload_n 1, 1) := by decide +kernel
theorem dX7_vents_21 : decode cX7_vents 21 = .ok (.invokevirtual 69, 3) := by decide +kernel
theorem dX7_vents_24 : decode cX7_vents 24 = .ok (.ireturn, 1) := by decide +kernel
set_option maxRecDepth 20000 in
theorem ggX7_drops_X7_adds : GoodIn wsX7_drops wsX7_adds := goodIn_r _ [6, 1, 39, 40, 41, 42, 43, 44, 45, 46, 47, 48, 49, 50] (by decide +kernel) (by decide +kernel)
set_option maxRecDepth 20000 in
theorem gX7_drops_X7_adds : GoodIn wsX7_drops (wsV RX7 58 RX7 yX7_adds wsX7_adds) := goodIn_app (goodIn_of _ (by decide +kernel)) ggX7_drops_X7_adds
set_option maxRecDepth 20000 in
theorem ggX7_drops_X7_heightOf : GoodIn wsX7_drops wsX7_heightOf := goodIn_r _ [10, 11, 12, 13, 14, 5, 15, 16, 17, 18, 19, 20, 21, 22, 23, 24, 25, 26, 27, 1, 28, 29, 30, 31, 32, 33, 34, 35, 36, 37, 38, 39, 40, 41, 42, 43, 44, 45, 46, 47, 48, 49, 50] (by decide +kernel) (by decide +kernel)
set_option maxRecDepth 20000 in
theorem gX7_drops_X7_heightOf : GoodIn wsX7_drops (wsV RX7 69 RX7 yX7_heightOf wsX7_heightOf) := goodIn_app (goodIn_of _ (by decide +kernel)) ggX7_drops_X7_heightOf
theorem dX7_drops_0 : decode cX7_drops 0 = .ok (.aload_n 0, 1) := by decide +kernel
theorem dX7_drops_1 : decode cX7_drops 1 = .ok (.iconst 0, 1) := by decide +kernel
theorem dX7_drops_2 : decode cX7_drops 2 = .ok (.iload_n 1, 1) := by decide +kernel
theorem dX7_drops_3 : decode cX7_drops 3 = .ok (.iconst 1, 1) := by decide +kernel
theorem dX7_drops_4 : decode cX7_drops 4 = .ok (.iconst (-1), 1) := by decide +kernel
theorem dX7_drops_5 : decode cX7_drops 5 = .ok (.invokevirtual 58, 3) := by decide +kernel
theorem dX7_drops_8 : decode cX7_drops 8 = .ok (.aload_n 0, 1) := by decide +kernel
theorem dX7_drops_9 : decode cX7_drops 9 = .ok (.getfield 7, 3) := by decide +kernel
theorem dX7_drops_12 : decode cX7_drops 12 = .ok (.iconst 5, 1) := by decide +kernel
theorem dX7_drops_13 : decode cX7_drops 13 = .ok (.dup2, 1) := by decide +kernel
theorem dX7_drops_14 : decode cX7_drops 14 = .ok (.iaload, 1) := by decide +kernel
theorem dX7_drops_15 : decode cX7_drops 15 = .ok (.iconst 1, 1) := by decide +kernel
theorem dX7_drops_16 : decode cX7_drops 16 = .ok (.iadd, 1) := by decide +kernel
theorem dX7_drops_17 : decode cX7_drops 17 = .ok (.iastore, 1) := by decide +kernel
theorem dX7_drops_18 : decode cX7_drops 18 = .ok (.aload_n 0, 1) := by decide +kernel
theorem dX7_drops_19 : decode cX7_drops 19 = .ok (.iload_n 1, 1) := by decide +kernel
theorem dX7_drops_20 : decode cX7_drops 20 = .ok (.invokevirtual 69, 3) := by decide +kernel
theorem dX7_drops_23 : decode cX7_drops 23 = .ok (.ireturn, 1) := by decide +kernel
set_option maxRecDepth 20000 in
theorem ggX7_puts_X7_adds : GoodIn wsX7_puts wsX7_adds := goodIn_r _ [5, 6, 11, 12, 13, 14, 15, 16, 17, 18, 19, 20, 21, 22] (by decide +kernel) (by decide +kernel)
set_option maxRecDepth 20000 in
theorem gX7_puts_X7_adds : GoodIn wsX7_puts (wsV RX7 58 RX7 yX7_adds wsX7_adds) := goodIn_app (goodIn_of _ (by decide +kernel)) ggX7_puts_X7_adds
set_option maxRecDepth 20000 in
theorem ggX7_puts_X7_of : GoodIn wsX7_puts wsX7_of := goodIn_r _ [10, 6, 11, 12, 13, 14, 15, 16, 17, 18, 19, 20, 21, 22] (by decide +kernel) (by decide +kernel)
set_option maxRecDepth 20000 in
theorem gX7_puts_X7_of : GoodIn wsX7_puts (wsV RX7 27 RX7 yX7_of wsX7_of) := goodIn_app (goodIn_of _ (by decide +kernel)) ggX7_puts_X7_of
theorem dX7_puts_0 : decode cX7_puts 0 = .ok (.aload_n 0, 1) := by decide +kernel
theorem dX7_puts_1 : decode cX7_puts 1 = .ok (.iconst 0, 1) := by decide +kernel
theorem dX7_puts_2 : decode cX7_puts 2 = .ok (.iload_n 1, 1) := by decide +kernel
theorem dX7_puts_3 : decode cX7_puts 3 = .ok (.iconst 1, 1) := by decide +kernel
theorem dX7_puts_4 : decode cX7_puts 4 = .ok (.iconst 1, 1) := by decide +kernel
theorem dX7_puts_5 : decode cX7_puts 5 = .ok (.invokevirtual 58, 3) := by decide +kernel
theorem dX7_puts_8 : decode cX7_puts 8 = .ok (.aload_n 0, 1) := by decide +kernel
theorem dX7_puts_9 : decode cX7_puts 9 = .ok (.iconst 0, 1) := by decide +kernel
theorem dX7_puts_10 : decode cX7_puts 10 = .ok (.iload_n 1, 1) := by decide +kernel
theorem dX7_puts_11 : decode cX7_puts 11 = .ok (.iconst 1, 1) := by decide +kernel
theorem dX7_puts_12 : decode cX7_puts 12 = .ok (.invokevirtual 27, 3) := by decide +kernel
theorem dX7_puts_15 : decode cX7_puts 15 = .ok (.ireturn, 1) := by decide +kernel
set_option maxRecDepth 20000 in
theorem ggX7_cuts_X7_allHeights : GoodIn wsX7_cuts wsX7_allHeights := goodIn_r _ [6, 7, 8, 9, 10, 5, 11, 12, 13, 14, 15, 16, 17, 18, 19, 20, 21, 22, 23, 1, 24, 25, 26, 27, 28, 29, 30, 31, 32, 33, 34, 35, 36, 37, 38, 39, 40, 41, 42, 43, 44, 45, 46] (by decide +kernel) (by decide +kernel)
set_option maxRecDepth 20000 in
theorem gX7_cuts_X7_allHeights : GoodIn wsX7_cuts (wsV RX7 72 RX7 yX7_allHeights wsX7_allHeights) := goodIn_app (goodIn_of _ (by decide +kernel)) ggX7_cuts_X7_allHeights
theorem dX7_cuts_0 : decode cX7_cuts 0 = .ok (.aload_n 0, 1) := by decide +kernel
theorem dX7_cuts_1 : decode cX7_cuts 1 = .ok (.iconst 0, 1) := by decide +kernel
theorem dX7_cuts_2 : decode cX7_cuts 2 = .ok (.invokevirtual 72, 3) := by decide +kernel
theorem dX7_cuts_5 : decode cX7_cuts 5 = .ok (.istore_n 2, 1) := by decide +kernel
theorem dX7_cuts_6 : decode cX7_cuts 6 = .ok (.aload_n 0, 1) := by decide +kernel
theorem dX7_cuts_7 : decode cX7_cuts 7 = .ok (.getfield 7, 3) := by decide +kernel
theorem dX7_cuts_10 : decode cX7_cuts 10 = .ok (.bipush 49, 2) := by decide +kernel
theorem dX7_cuts_12 : decode cX7_cuts 12 = .ok (.iconst 3, 1) := by decide +kernel
theorem dX7_cuts_13 : decode cX7_cuts 13 = .ok (.iload_n 1, 1) := by decide +kernel
theorem dX7_cuts_14 : decode cX7_cuts 14 = .ok (.imul, 1) := by decide +kernel
theorem dX7_cuts_15 : decode cX7_cuts 15 = .ok (.iadd, 1) := by decide +kernel
theorem dX7_cuts_16 : decode cX7_cuts 16 = .ok (.iconst 0, 1) := by decide +kernel
theorem dX7_cuts_17 : decode cX7_cuts 17 = .ok (.iastore, 1) := by decide +kernel
theorem dX7_cuts_18 : decode cX7_cuts 18 = .ok (.aload_n 0, 1) := by decide +kernel
theorem dX7_cuts_19 : decode cX7_cuts 19 = .ok (.iconst 0, 1) := by decide +kernel
theorem dX7_cuts_20 : decode cX7_cuts 20 = .ok (.invokevirtual 72, 3) := by decide +kernel
theorem dX7_cuts_23 : decode cX7_cuts 23 = .ok (.iload_n 2, 1) := by decide +kernel
theorem dX7_cuts_24 : decode cX7_cuts 24 = .ok (.isub, 1) := by decide +kernel
theorem dX7_cuts_25 : decode cX7_cuts 25 = .ok (.ireturn, 1) := by decide +kernel
set_option maxRecDepth 20000 in
theorem ggX7_tells_X7_heightOf : GoodIn wsX7_tells wsX7_heightOf := goodIn_r _ [6, 7, 8, 9, 10, 5, 11, 12, 13, 14, 15, 16, 17, 18, 19, 20, 21, 22, 23, 1, 24, 25, 26, 27, 28, 29, 30, 31, 32, 33, 34, 35, 36, 37, 38, 39, 40, 41, 42, 43, 44, 45, 46] (by decide +kernel) (by decide +kernel)
set_option maxRecDepth 20000 in
theorem gX7_tells_X7_heightOf : GoodIn wsX7_tells (wsV RX7 69 RX7 yX7_heightOf wsX7_heightOf) := goodIn_app (goodIn_of _ (by decide +kernel)) ggX7_tells_X7_heightOf
set_option maxRecDepth 20000 in
theorem ggX7_tells_X7_of : GoodIn wsX7_tells wsX7_of := goodIn_r _ [23, 1, 35, 36, 37, 38, 39, 40, 41, 42, 43, 44, 45, 46] (by decide +kernel) (by decide +kernel)
set_option maxRecDepth 20000 in
theorem gX7_tells_X7_of : GoodIn wsX7_tells (wsV RX7 27 RX7 yX7_of wsX7_of) := goodIn_app (goodIn_of _ (by decide +kernel)) ggX7_tells_X7_of
theorem dX7_tells_0 : decode cX7_tells 0 = .ok (.aload_n 0, 1) := by decide +kernel
theorem dX7_tells_1 : decode cX7_tells 1 = .ok (.iload_n 1, 1) := by decide +kernel
theorem dX7_tells_2 : decode cX7_tells 2 = .ok (.invokevirtual 69, 3) := by decide +kernel
theorem dX7_tells_5 : decode cX7_tells 5 = .ok (.aload_n 0, 1) := by decide +kernel
theorem dX7_tells_6 : decode cX7_tells 6 = .ok (.iconst 0, 1) := by decide +kernel
theorem dX7_tells_7 : decode cX7_tells 7 = .ok (.iload_n 1, 1) := by decide +kernel
theorem dX7_tells_8 : decode cX7_tells 8 = .ok (.iconst 3, 1) := by decide +kernel
theorem dX7_tells_9 : decode cX7_tells 9 = .ok (.invokevirtual 27, 3) := by decide +kernel
theorem dX7_tells_12 : decode cX7_tells 12 = .ok (.aload_n 0, 1) := by decide +kernel
theorem dX7_tells_13 : decode cX7_tells 13 = .ok (.getfield 7, 3) := by decide +kernel
theorem dX7_tells_16 : decode cX7_tells 16 = .ok (.iconst 0, 1) := by decide +kernel
theorem dX7_tells_17 : decode cX7_tells 17 = .ok (.iaload, 1) := by decide +kernel
theorem dX7_tells_18 : decode cX7_tells 18 = .ok (.aload_n 0, 1) := by decide +kernel
theorem dX7_tells_19 : decode cX7_tells 19 = .ok (.iconst 0, 1) := by decide +kernel
theorem dX7_tells_20 : decode cX7_tells 20 = .ok (.iload_n 1, 1) := by decide +kernel
theorem dX7_tells_21 : decode cX7_tells 21 = .ok (.iconst 4, 1) := by decide +kernel
theorem dX7_tells_22 : decode cX7_tells 22 = .ok (.invokevirtual 27, 3) := by decide +kernel
theorem dX7_tells_25 : decode cX7_tells 25 = .ok (.isub, 1) := by decide +kernel
theorem dX7_tells_26 : decode cX7_tells 26 = .ok (.imul, 1) := by decide +kernel
theorem dX7_tells_27 : decode cX7_tells 27 = .ok (.iconst 4, 1) := by decide +kernel
theorem dX7_tells_28 : decode cX7_tells 28 = .ok (.idiv, 1) := by decide +kernel
theorem dX7_tells_29 : decode cX7_tells 29 = .ok (.iadd, 1) := by decide +kernel
theorem dX7_tells_30 : decode cX7_tells 30 = .ok (.ireturn, 1) := by decide +kernel
set_option maxRecDepth 20000 in
theorem ggX7_notes_X7_tells : GoodIn wsX7_notes wsX7_tells := goodIn_r _ [6, 1, 7, 8, 9, 5, 10, 11, 12, 13, 14, 15, 16, 17, 18, 19, 20, 21, 22, 23, 24, 25, 26, 27, 28, 29, 30, 31, 32, 33, 34, 35, 36, 37, 38, 39, 40, 41, 42, 43, 44, 45, 46, 47, 48, 49, 50] (by decide +kernel) (by decide +kernel)
set_option maxRecDepth 20000 in
theorem gX7_notes_X7_tells : GoodIn wsX7_notes (wsV RX7 75 RX7 yX7_tells wsX7_tells) := goodIn_app (goodIn_of _ (by decide +kernel)) ggX7_notes_X7_tells
theorem dX7_notes_0 : decode cX7_notes 0 = .ok (.aload_n 0, 1) := by decide +kernel
theorem dX7_notes_1 : decode cX7_notes 1 = .ok (.iload_n 1, 1) := by decide +kernel
theorem dX7_notes_2 : decode cX7_notes 2 = .ok (.invokevirtual 75, 3) := by decide +kernel
theorem dX7_notes_5 : decode cX7_notes 5 = .ok (.istore_n 2, 1) := by decide +kernel
theorem dX7_notes_6 : decode cX7_notes 6 = .ok (.iconst 0, 1) := by decide +kernel
theorem dX7_notes_7 : decode cX7_notes 7 = .ok (.istore_n 3, 1) := by decide +kernel
theorem dX7_notes_8 : decode cX7_notes 8 = .ok (.iload_n 3, 1) := by decide +kernel
theorem dX7_notes_9 : decode cX7_notes 9 = .ok (.aload_n 0, 1) := by decide +kernel
theorem dX7_notes_10 : decode cX7_notes 10 = .ok (.getfield 7, 3) := by decide +kernel
theorem dX7_notes_13 : decode cX7_notes 13 = .ok (.bipush 8, 2) := by decide +kernel
theorem dX7_notes_15 : decode cX7_notes 15 = .ok (.iaload, 1) := by decide +kernel
theorem dX7_notes_16 : decode cX7_notes 16 = .ok (.if_icmp .ge 46, 3) := by decide +kernel
theorem dX7_notes_19 : decode cX7_notes 19 = .ok (.aload_n 0, 1) := by decide +kernel
theorem dX7_notes_20 : decode cX7_notes 20 = .ok (.getfield 7, 3) := by decide +kernel
theorem dX7_notes_23 : decode cX7_notes 23 = .ok (.bipush 70, 2) := by decide +kernel
theorem dX7_notes_25 : decode cX7_notes 25 = .ok (.iconst 3, 1) := by decide +kernel
theorem dX7_notes_26 : decode cX7_notes 26 = .ok (.iload_n 3, 1) := by decide +kernel
theorem dX7_notes_27 : decode cX7_notes 27 = .ok (.imul, 1) := by decide +kernel
theorem dX7_notes_28 : decode cX7_notes 28 = .ok (.iadd, 1) := by decide +kernel
theorem dX7_notes_29 : decode cX7_notes 29 = .ok (.iaload, 1) := by decide +kernel
theorem dX7_notes_30 : decode cX7_notes 30 = .ok (.iload_n 1, 1) := by decide +kernel
theorem dX7_notes_31 : decode cX7_notes 31 = .ok (.if_icmp .ne 25, 3) := by decide +kernel
theorem dX7_notes_34 : decode cX7_notes 34 = .ok (.aload_n 0, 1) := by decide +kernel
theorem dX7_notes_35 : decode cX7_notes 35 = .ok (.getfield 7, 3) := by decide +kernel
theorem dX7_notes_38 : decode cX7_notes 38 = .ok (.bipush 70, 2) := by decide +kernel
theorem dX7_notes_40 : decode cX7_notes 40 = .ok (.iconst 3, 1) := by decide +kernel
theorem dX7_notes_41 : decode cX7_notes 41 = .ok (.iload_n 3, 1) := by decide +kernel
theorem dX7_notes_42 : decode cX7_notes 42 = .ok (.imul, 1) := by decide +kernel
theorem dX7_notes_43 : decode cX7_notes 43 = .ok (.iadd, 1) := by decide +kernel
theorem dX7_notes_44 : decode cX7_notes 44 = .ok (.iconst 1, 1) := by decide +kernel
theorem dX7_notes_45 : decode cX7_notes 45 = .ok (.iadd, 1) := by decide +kernel
theorem dX7_notes_46 : decode cX7_notes 46 = .ok (.iaload, 1) := by decide +kernel
theorem dX7_notes_47 : decode cX7_notes 47 = .ok (.aload_n 0, 1) := by decide +kernel
theorem dX7_notes_48 : decode cX7_notes 48 = .ok (.getfield 7, 3) := by decide +kernel
theorem dX7_notes_51 : decode cX7_notes 51 = .ok (.iconst 0, 1) := by decide +kernel
theorem dX7_notes_52 : decode cX7_notes 52 = .ok (.iaload, 1) := by decide +kernel
theorem dX7_notes_53 : decode cX7_notes 53 = .ok (.if_icmp .eq 9, 3) := by decide +kernel
theorem dX7_notes_56 : decode cX7_notes 56 = .ok (.iinc 3 1, 3) := by decide +kernel
theorem dX7_notes_59 : decode cX7_notes 59 = .ok (.goto (-51), 3) := by decide +kernel
theorem dX7_notes_62 : decode cX7_notes 62 = .ok (.iload_n 3, 1) := by decide +kernel
theorem dX7_notes_63 : decode cX7_notes 63 = .ok (.bipush 20, 2) := by decide +kernel
theorem dX7_notes_65 : decode cX7_notes 65 = .ok (.if_icmp .ne 44, 3) := by decide +kernel
theorem dX7_notes_68 : decode cX7_notes 68 = .ok (.iconst 0, 1) := by decide +kernel
theorem dX7_notes_69 : decode cX7_notes 69 = .ok (.istore 4, 2) := by decide +kernel
theorem dX7_notes_71 : decode cX7_notes 71 = .ok (.iload 4, 2) := by decide +kernel
theorem dX7_notes_73 : decode cX7_notes 73 = .ok (.bipush 57, 2) := by decide +kernel
theorem dX7_notes_75 : decode cX7_notes 75 = .ok (.if_icmp .ge 31, 3) := by decide +kernel
theorem dX7_notes_78 : decode cX7_notes 78 = .ok (.aload_n 0, 1) := by decide +kernel
theorem dX7_notes_79 : decode cX7_notes 79 = .ok (.getfield 7, 3) := by decide +kernel
theorem dX7_notes_82 : decode cX7_notes 82 = .ok (.bipush 70, 2) := by decide +kernel
theorem dX7_notes_84 : decode cX7_notes 84 = .ok (.iload 4, 2) := by decide +kernel
theorem dX7_notes_86 : decode cX7_notes 86 = .ok (.iadd, 1) := by decide +kernel
theorem dX7_notes_87 : decode cX7_notes 87 = .ok (.aload_n 0, 1) := by decide +kernel
theorem dX7_notes_88 : decode cX7_notes 88 = .ok (.getfield 7, 3) := by decide +kernel
theorem dX7_notes_91 : decode cX7_notes 91 = .ok (.bipush 70, 2) := by decide +kernel
theorem dX7_notes_93 : decode cX7_notes 93 = .ok (.iload 4, 2) := by decide +kernel
theorem dX7_notes_95 : decode cX7_notes 95 = .ok (.iadd, 1) := by decide +kernel
theorem dX7_notes_96 : decode cX7_notes 96 = .ok (.iconst 3, 1) := by decide +kernel
theorem dX7_notes_97 : decode cX7_notes 97 = .ok (.iadd, 1) := by decide +kernel
theorem dX7_notes_98 : decode cX7_notes 98 = .ok (.iaload, 1) := by decide +kernel
theorem dX7_notes_99 : decode cX7_notes 99 = .ok (.iastore, 1) := by decide +kernel
theorem dX7_notes_100 : decode cX7_notes 100 = .ok (.iinc 4 1, 3) := by decide +kernel
theorem dX7_notes_103 : decode cX7_notes 103 = .ok (.goto (-32), 3) := by decide +kernel
theorem dX7_notes_106 : decode cX7_notes 106 = .ok (.iinc 3 (-1), 3) := by decide +kernel
theorem dX7_notes_109 : decode cX7_notes 109 = .ok (.aload_n 0, 1) := by decide +kernel
theorem dX7_notes_110 : decode cX7_notes 110 = .ok (.getfield 7, 3) := by decide +kernel
theorem dX7_notes_113 : decode cX7_notes 113 = .ok (.bipush 8, 2) := by decide +kernel
theorem dX7_notes_115 : decode cX7_notes 115 = .ok (.iload_n 3, 1) := by decide +kernel
theorem dX7_notes_116 : decode cX7_notes 116 = .ok (.aload_n 0, 1) := by decide +kernel
theorem dX7_notes_117 : decode cX7_notes 117 = .ok (.getfield 7, 3) := by decide +kernel
theorem dX7_notes_120 : decode cX7_notes 120 = .ok (.bipush 8, 2) := by decide +kernel
theorem dX7_notes_122 : decode cX7_notes 122 = .ok (.iaload, 1) := by decide +kernel
theorem dX7_notes_123 : decode cX7_notes 123 = .ok (.if_icmp .ge 13, 3) := by decide +kernel
theorem dX7_notes_126 : decode cX7_notes 126 = .ok (.aload_n 0, 1) := by decide +kernel
theorem dX7_notes_127 : decode cX7_notes 127 = .ok (.getfield 7, 3) := by decide +kernel
theorem dX7_notes_130 : decode cX7_notes 130 = .ok (.bipush 8, 2) := by decide +kernel
theorem dX7_notes_132 : decode cX7_notes 132 = .ok (.iaload, 1) := by decide +kernel
theorem dX7_notes_133 : decode cX7_notes 133 = .ok (.goto 6, 3) := by decide +kernel
theorem dX7_notes_136 : decode cX7_notes 136 = .ok (.iload_n 3, 1) := by decide +kernel
theorem dX7_notes_137 : decode cX7_notes 137 = .ok (.iconst 1, 1) := by decide +kernel
theorem dX7_notes_138 : decode cX7_notes 138 = .ok (.iadd, 1) := by decide +kernel
theorem dX7_notes_139 : decode cX7_notes 139 = .ok (.iastore, 1) := by decide +kernel
theorem dX7_notes_140 : decode cX7_notes 140 = .ok (.aload_n 0, 1) := by decide +kernel
theorem dX7_notes_141 : decode cX7_notes 141 = .ok (.getfield 7, 3) := by decide +kernel
theorem dX7_notes_144 : decode cX7_notes 144 = .ok (.bipush 70, 2) := by decide +kernel
theorem dX7_notes_146 : decode cX7_notes 146 = .ok (.iconst 3, 1) := by decide +kernel
theorem dX7_notes_147 : decode cX7_notes 147 = .ok (.iload_n 3, 1) := by decide +kernel
theorem dX7_notes_148 : decode cX7_notes 148 = .ok (.imul, 1) := by decide +kernel
theorem dX7_notes_149 : decode cX7_notes 149 = .ok (.iadd, 1) := by decide +kernel
theorem dX7_notes_150 : decode cX7_notes 150 = .ok (.iload_n 1, 1) := by decide +kernel
theorem dX7_notes_151 : decode cX7_notes 151 = .ok (.iastore, 1) := by decide +kernel
theorem dX7_notes_152 : decode cX7_notes 152 = .ok (.aload_n 0, 1) := by decide +kernel
theorem dX7_notes_153 : decode cX7_notes 153 = .ok (.getfield 7, 3) := by decide +kernel
theorem dX7_notes_156 : decode cX7_notes 156 = .ok (.bipush 70, 2) := by decide +kernel
theorem dX7_notes_158 : decode cX7_notes 158 = .ok (.iconst 3, 1) := by decide +kernel
theorem dX7_notes_159 : decode cX7_notes 159 = .ok (.iload_n 3, 1) := by decide +kernel
theorem dX7_notes_160 : decode cX7_notes 160 = .ok (.imul, 1) := by decide +kernel
theorem dX7_notes_161 : decode cX7_notes 161 = .ok (.iadd, 1) := by decide +kernel
theorem dX7_notes_162 : decode cX7_notes 162 = .ok (.iconst 1, 1) := by decide +kernel
theorem dX7_notes_163 : decode cX7_notes 163 = .ok (.iadd, 1) := by decide +kernel
theorem dX7_notes_164 : decode cX7_notes 164 = .ok (.aload_n 0, 1) := by decide +kernel
theorem dX7_notes_165 : decode cX7_notes 165 = .ok (.getfield 7, 3) := by decide +kernel
theorem dX7_notes_168 : decode cX7_notes 168 = .ok (.iconst 0, 1) := by decide +kernel
theorem dX7_notes_169 : decode cX7_notes 169 = .ok (.iaload, 1) := by decide +kernel
theorem dX7_notes_170 : decode cX7_notes 170 = .ok (.iastore, 1) := by decide +kernel
theorem dX7_notes_171 : decode cX7_notes 171 = .ok (.aload_n 0, 1) := by decide +kernel
theorem dX7_notes_172 : decode cX7_notes 172 = .ok (.getfield 7, 3) := by decide +kernel
theorem dX7_notes_175 : decode cX7_notes 175 = .ok (.bipush 70, 2) := by decide +kernel
theorem dX7_notes_177 : decode cX7_notes 177 = .ok (.iconst 3, 1) := by decide +kernel
theorem dX7_notes_178 : decode cX7_notes 178 = .ok (.iload_n 3, 1) := by decide +kernel
theorem dX7_notes_179 : decode cX7_notes 179 = .ok (.imul, 1) := by decide +kernel
theorem dX7_notes_180 : decode cX7_notes 180 = .ok (.iadd, 1) := by decide +kernel
theorem dX7_notes_181 : decode cX7_notes 181 = .ok (.iconst 2, 1) := by decide +kernel
theorem dX7_notes_182 : decode cX7_notes 182 = .ok (.iadd, 1) := by decide +kernel
theorem dX7_notes_183 : decode cX7_notes 183 = .ok (.iload_n 2, 1) := by decide +kernel
theorem dX7_notes_184 : decode cX7_notes 184 = .ok (.iastore, 1) := by decide +kernel
theorem dX7_notes_185 : decode cX7_notes 185 = .ok (.iload_n 2, 1) := by decide +kernel
theorem dX7_notes_186 : decode cX7_notes 186 = .ok (.ireturn, 1) := by decide +kernel
theorem dX7_copies_0 : decode cX7_copies 0 = .ok (.iconst 0, 1) := by decide +kernel
theorem dX7_copies_1 : decode cX7_copies 1 = .ok (.istore_n 3, 1) := by decide +kernel
theorem dX7_copies_2 : decode cX7_copies 2 = .ok (.iload_n 3, 1) := by decide +kernel
theorem dX7_copies_3 : decode cX7_copies 3 = .ok (.sipush 130, 3) := by decide +kernel
theorem dX7_copies_6 : decode cX7_copies 6 = .ok (.if_icmp .ge 33, 3) := by decide +kernel
theorem dX7_copies_9 : decode cX7_copies 9 = .ok (.aload_n 0, 1) := by decide +kernel
theorem dX7_copies_10 : decode cX7_copies 10 = .ok (.getfield 7, 3) := by decide +kernel
theorem dX7_copies_13 : decode cX7_copies 13 = .ok (.sipush 130, 3) := by decide +kernel
theorem dX7_copies_16 : decode cX7_copies 16 = .ok (.iload_n 2, 1) := by decide +kernel
theorem dX7_copies_17 : decode cX7_copies 17 = .ok (.imul, 1) := by decide +kernel
theorem dX7_copies_18 : decode cX7_copies 18 = .ok (.iload_n 3, 1) := by decide +kernel
theorem dX7_copies_19 : decode cX7_copies 19 = .ok (.iadd, 1) := by decide +kernel
theorem dX7_copies_20 : decode cX7_copies 20 = .ok (.aload_n 0, 1) := by decide +kernel
theorem dX7_copies_21 : decode cX7_copies 21 = .ok (.getfield 7, 3) := by decide +kernel
theorem dX7_copies_24 : decode cX7_copies 24 = .ok (.sipush 130, 3) := by decide +kernel
theorem dX7_copies_27 : decode cX7_copies 27 = .ok (.iload_n 1, 1) := by decide +kernel
theorem dX7_copies_28 : decode cX7_copies 28 = .ok (.imul, 1) := by decide +kernel
theorem dX7_copies_29 : decode cX7_copies 29 = .ok (.iload_n 3, 1) := by decide +kernel
theorem dX7_copies_30 : decode cX7_copies 30 = .ok (.iadd, 1) := by decide +kernel
theorem dX7_copies_31 : decode cX7_copies 31 = .ok (.iaload, 1) := by decide +kernel
theorem dX7_copies_32 : decode cX7_copies 32 = .ok (.iastore, 1) := by decide +kernel
theorem dX7_copies_33 : decode cX7_copies 33 = .ok (.iinc 3 1, 3) := by decide +kernel
theorem dX7_copies_36 : decode cX7_copies 36 = .ok (.goto (-34), 3) := by decide +kernel
theorem dX7_copies_39 : decode cX7_copies 39 = .ok (.return_, 1) := by decide +kernel
set_option maxRecDepth 20000 in
theorem ggX7_save_X7_copies : GoodIn wsX7_save wsX7_copies := goodIn_r _ [6, 7, 8, 9, 10, 11, 12, 13, 14, 15, 16, 17, 18, 19] (by decide +kernel) (by decide +kernel)
set_option maxRecDepth 20000 in
theorem gX7_save_X7_copies : GoodIn wsX7_save (wsV RX7 81 RX7 yX7_copies wsX7_copies) := goodIn_app (goodIn_of _ (by decide +kernel)) ggX7_save_X7_copies
theorem dX7_save_0 : decode cX7_save 0 = .ok (.iconst 1, 1) := by decide +kernel
theorem dX7_save_1 : decode cX7_save 1 = .ok (.istore_n 1, 1) := by decide +kernel
theorem dX7_save_2 : decode cX7_save 2 = .ok (.iload_n 1, 1) := by decide +kernel
theorem dX7_save_3 : decode cX7_save 3 = .ok (.bipush 6, 2) := by decide +kernel
theorem dX7_save_5 : decode cX7_save 5 = .ok (.if_icmp .ge 26, 3) := by decide +kernel
theorem dX7_save_8 : decode cX7_save 8 = .ok (.aload_n 0, 1) := by decide +kernel
theorem dX7_save_9 : decode cX7_save 9 = .ok (.getfield 78, 3) := by decide +kernel
theorem dX7_save_12 : decode cX7_save 12 = .ok (.bipush 6, 2) := by decide +kernel
theorem dX7_save_14 : decode cX7_save 14 = .ok (.if_icmp .ne 17, 3) := by decide +kernel
theorem dX7_save_17 : decode cX7_save 17 = .ok (.aload_n 0, 1) := by decide +kernel
theorem dX7_save_18 : decode cX7_save 18 = .ok (.iload_n 1, 1) := by decide +kernel
theorem dX7_save_19 : decode cX7_save 19 = .ok (.iconst 1, 1) := by decide +kernel
theorem dX7_save_20 : decode cX7_save 20 = .ok (.iadd, 1) := by decide +kernel
theorem dX7_save_21 : decode cX7_save 21 = .ok (.iload_n 1, 1) := by decide +kernel
theorem dX7_save_22 : decode cX7_save 22 = .ok (.invokevirtual 81, 3) := by decide +kernel
theorem dX7_save_25 : decode cX7_save 25 = .ok (.iinc 1 1, 3) := by decide +kernel
theorem dX7_save_28 : decode cX7_save 28 = .ok (.goto (-26), 3) := by decide +kernel
theorem dX7_save_31 : decode cX7_save 31 = .ok (.aload_n 0, 1) := by decide +kernel
theorem dX7_save_32 : decode cX7_save 32 = .ok (.dup, 1) := by decide +kernel
theorem dX7_save_33 : decode cX7_save 33 = .ok (.getfield 78, 3) := by decide +kernel
theorem dX7_save_36 : decode cX7_save 36 = .ok (.aload_n 0, 1) := by decide +kernel
theorem dX7_save_37 : decode cX7_save 37 = .ok (.getfield 78, 3) := by decide +kernel
theorem dX7_save_40 : decode cX7_save 40 = .ok (.bipush 6, 2) := by decide +kernel
theorem dX7_save_42 : decode cX7_save 42 = .ok (.if_icmp .ge 7, 3) := by decide +kernel
theorem dX7_save_45 : decode cX7_save 45 = .ok (.iconst 1, 1) := by decide +kernel
theorem dX7_save_46 : decode cX7_save 46 = .ok (.goto 4, 3) := by decide +kernel
theorem dX7_save_49 : decode cX7_save 49 = .ok (.iconst 0, 1) := by decide +kernel
theorem dX7_save_50 : decode cX7_save 50 = .ok (.iadd, 1) := by decide +kernel
theorem dX7_save_51 : decode cX7_save 51 = .ok (.putfield 78, 3) := by decide +kernel
theorem dX7_save_54 : decode cX7_save 54 = .ok (.aload_n 0, 1) := by decide +kernel
theorem dX7_save_55 : decode cX7_save 55 = .ok (.iconst 0, 1) := by decide +kernel
theorem dX7_save_56 : decode cX7_save 56 = .ok (.aload_n 0, 1) := by decide +kernel
theorem dX7_save_57 : decode cX7_save 57 = .ok (.getfield 78, 3) := by decide +kernel
theorem dX7_save_60 : decode cX7_save 60 = .ok (.invokevirtual 81, 3) := by decide +kernel
theorem dX7_save_63 : decode cX7_save 63 = .ok (.return_, 1) := by decide +kernel
set_option maxRecDepth 20000 in
theorem ggX7_changed_X7_save : GoodIn wsX7_changed wsX7_save := goodIn_r _ [6, 7, 8, 9, 10, 5, 11, 1, 12, 13, 14, 15, 16, 17, 18, 19, 20, 21, 22, 23] (by decide +kernel) (by decide +kernel)
set_option maxRecDepth 20000 in
theorem gX7_changed_X7_save : GoodIn wsX7_changed (wsV RX7 85 RX7 yX7_save wsX7_save) := goodIn_app (goodIn_of _ (by decide +kernel)) ggX7_changed_X7_save
theorem dX7_changed_0 : decode cX7_changed 0 = .ok (.aload_n 0, 1) := by decide +kernel
theorem dX7_changed_1 : decode cX7_changed 1 = .ok (.invokevirtual 85, 3) := by decide +kernel
theorem dX7_changed_4 : decode cX7_changed 4 = .ok (.aload_n 0, 1) := by decide +kernel
theorem dX7_changed_5 : decode cX7_changed 5 = .ok (.getfield 7, 3) := by decide +kernel
theorem dX7_changed_8 : decode cX7_changed 8 = .ok (.iload_n 1, 1) := by decide +kernel
theorem dX7_changed_9 : decode cX7_changed 9 = .ok (.iaload, 1) := by decide +kernel
theorem dX7_changed_10 : decode cX7_changed 10 = .ok (.istore_n 3, 1) := by decide +kernel
theorem dX7_changed_11 : decode cX7_changed 11 = .ok (.aload_n 0, 1) := by decide +kernel
theorem dX7_changed_12 : decode cX7_changed 12 = .ok (.getfield 7, 3) := by decide +kernel
theorem dX7_changed_15 : decode cX7_changed 15 = .ok (.iload_n 1, 1) := by decide +kernel
theorem dX7_changed_16 : decode cX7_changed 16 = .ok (.iload_n 2, 1) := by decide +kernel
theorem dX7_changed_17 : decode cX7_changed 17 = .ok (.iastore, 1) := by decide +kernel
theorem dX7_changed_18 : decode cX7_changed 18 = .ok (.iload_n 3, 1) := by decide +kernel
theorem dX7_changed_19 : decode cX7_changed 19 = .ok (.ireturn, 1) := by decide +kernel
set_option maxRecDepth 20000 in
theorem ggX7_isAmount_X7_in : GoodIn wsX7_isAmount wsX7_in := goodIn_r _ [4] (by decide +kernel) (by decide +kernel)
set_option maxRecDepth 20000 in
theorem gX7_isAmount_X7_in : GoodIn wsX7_isAmount (va_wsS RX7 23 yX7_in wsX7_in) := goodIn_app (goodIn_of _ (by decide +kernel)) ggX7_isAmount_X7_in
theorem dX7_isAmount_0 : decode cX7_isAmount 0 = .ok (.iload_n 0, 1) := by decide +kernel
theorem dX7_isAmount_1 : decode cX7_isAmount 1 = .ok (.iconst 1, 1) := by decide +kernel
theorem dX7_isAmount_2 : decode cX7_isAmount 2 = .ok (.bipush 99, 2) := by decide +kernel
theorem dX7_isAmount_4 : decode cX7_isAmount 4 = .ok (.invokestatic 23, 3) := by decide +kernel
theorem dX7_isAmount_7 : decode cX7_isAmount 7 = .ok (.ireturn, 1) := by decide +kernel
set_option maxRecDepth 20000 in
theorem ggX7_fill_X7_isBalloon : GoodIn wsX7_fill wsX7_isBalloon := goodIn_r _ [4, 5, 6, 3, 7] (by decide +kernel) (by decide +kernel)
set_option maxRecDepth 20000 in
theorem gX7_fill_X7_isBalloon : GoodIn wsX7_fill (va_wsS RX7 88 yX7_isBalloon wsX7_isBalloon) := goodIn_app (goodIn_of _ (by decide +kernel)) ggX7_fill_X7_isBalloon
set_option maxRecDepth 20000 in
theorem ggX7_fill_X7_isAmount : GoodIn wsX7_fill wsX7_isAmount := goodIn_r _ [10, 5, 6, 3, 7] (by decide +kernel) (by decide +kernel)
set_option maxRecDepth 20000 in
theorem gX7_fill_X7_isAmount : GoodIn wsX7_fill (va_wsS RX7 92 yX7_isAmount wsX7_isAmount) := goodIn_app (goodIn_of _ (by decide +kernel)) ggX7_fill_X7_isAmount
set_option maxRecDepth 20000 in
theorem ggX7_fill_X7_noFill : GoodIn wsX7_fill wsX7_noFill := goodIn_r _ [14, 15, 16, 17, 3, 18, 19, 20, 21, 22, 23, 24, 25, 26, 27, 28, 29, 30, 31, 32, 33, 34, 35, 36, 37, 38, 39, 40, 41, 42, 43, 44, 45, 46, 47, 70, 71, 72, 73, 74, 75, 76, 77, 78, 79, 80, 81] (by decide +kernel) (by decide +kernel)
set_option maxRecDepth 20000 in
theorem gX7_fill_X7_noFill : GoodIn wsX7_fill (wsV RX7 95 RX7 yX7_noFill wsX7_noFill) := goodIn_app (goodIn_of _ (by decide +kernel)) ggX7_fill_X7_noFill
set_option maxRecDepth 20000 in
theorem ggX7_fill_X7_holds : GoodIn wsX7_fill wsX7_holds := goodIn_r _ [51, 52, 70, 71, 72, 73, 74, 75, 76, 77, 78, 79, 80, 81] (by decide +kernel) (by decide +kernel)
set_option maxRecDepth 20000 in
theorem gX7_fill_X7_holds : GoodIn wsX7_fill (wsV RX7 98 RX7 yX7_holds wsX7_holds) := goodIn_app (goodIn_of _ (by decide +kernel)) ggX7_fill_X7_holds
set_option maxRecDepth 20000 in
theorem ggX7_fill_X7_save : GoodIn wsX7_fill wsX7_save := goodIn_r _ [56, 57, 58, 59, 60, 3, 61, 19, 70, 71, 72, 73, 74, 75, 76, 77, 78, 79, 80, 81] (by decide +kernel) (by decide +kernel)
set_option maxRecDepth 20000 in
theorem gX7_fill_X7_save : GoodIn wsX7_fill (wsV RX7 85 RX7 yX7_save wsX7_save) := goodIn_app (goodIn_of _ (by decide +kernel)) ggX7_fill_X7_save
set_option maxRecDepth 20000 in
theorem ggX7_fill_X7_fills : GoodIn wsX7_fill wsX7_fills := goodIn_r _ [65, 19, 66, 67, 68, 3, 69, 15, 16, 17, 18, 70, 71, 72, 73, 74, 75, 76, 77, 78, 79, 80, 81] (by decide +kernel) (by decide +kernel)
set_option maxRecDepth 20000 in
theorem gX7_fill_X7_fills : GoodIn wsX7_fill (wsV RX7 101 RX7 yX7_fills wsX7_fills) := goodIn_app (goodIn_of _ (by decide +kernel)) ggX7_fill_X7_fills
theorem dX7_fill_0 : decode cX7_fill 0 = .ok (.iload_n 1, 1) := by decide +kernel
theorem dX7_fill_1 : decode cX7_fill 1 = .ok (.invokestatic 88, 3) := by decide +kernel
theorem dX7_fill_4 : decode cX7_fill 4 = .ok (.istore_n 3, 1) := by decide +kernel
theorem dX7_fill_5 : decode cX7_fill 5 = .ok (.aload_n 0, 1) := by decide +kernel
theorem dX7_fill_6 : decode cX7_fill 6 = .ok (.iload_n 3, 1) := by decide +kernel
theorem dX7_fill_7 : decode cX7_fill 7 = .ok (.ifCond .ne 7, 3) := by decide +kernel
theorem dX7_fill_10 : decode cX7_fill 10 = .ok (.iconst 1, 1) := by decide +kernel
theorem dX7_fill_11 : decode cX7_fill 11 = .ok (.goto 28, 3) := by decide +kernel
theorem dX7_fill_14 : decode cX7_fill 14 = .ok (.iload_n 2, 1) := by decide +kernel
theorem dX7_fill_15 : decode cX7_fill 15 = .ok (.invokestatic 92, 3) := by decide +kernel
theorem dX7_fill_18 : decode cX7_fill 18 = .ok (.ifCond .ne 7, 3) := by decide +kernel
theorem dX7_fill_21 : decode cX7_fill 21 = .ok (.iconst 2, 1) := by decide +kernel
theorem dX7_fill_22 : decode cX7_fill 22 = .ok (.goto 17, 3) := by decide +kernel
theorem dX7_fill_25 : decode cX7_fill 25 = .ok (.aload_n 0, 1) := by decide +kernel
theorem dX7_fill_26 : decode cX7_fill 26 = .ok (.iload_n 1, 1) := by decide +kernel
theorem dX7_fill_27 : decode cX7_fill 27 = .ok (.iload_n 2, 1) := by decide +kernel
theorem dX7_fill_28 : decode cX7_fill 28 = .ok (.invokevirtual 95, 3) := by decide +kernel
theorem dX7_fill_31 : decode cX7_fill 31 = .ok (.ifCond .le 7, 3) := by decide +kernel
theorem dX7_fill_34 : decode cX7_fill 34 = .ok (.iconst 3, 1) := by decide +kernel
theorem dX7_fill_35 : decode cX7_fill 35 = .ok (.goto 4, 3) := by decide +kernel
theorem dX7_fill_38 : decode cX7_fill 38 = .ok (.iconst 0, 1) := by decide +kernel
theorem dX7_fill_39 : decode cX7_fill 39 = .ok (.invokevirtual 98, 3) := by decide +kernel
theorem dX7_fill_42 : decode cX7_fill 42 = .ok (.ifCond .ne 5, 3) := by decide +kernel
theorem dX7_fill_45 : decode cX7_fill 45 = .ok (.iconst 0, 1) := by decide +kernel
theorem dX7_fill_46 : decode cX7_fill 46 = .ok (.ireturn, 1) := by decide +kernel
theorem dX7_fill_47 : decode cX7_fill 47 = .ok (.aload_n 0, 1) := by decide +kernel
theorem dX7_fill_48 : decode cX7_fill 48 = .ok (.invokevirtual 85, 3) := by decide +kernel
theorem dX7_fill_51 : decode cX7_fill 51 = .ok (.aload_n 0, 1) := by decide +kernel
theorem dX7_fill_52 : decode cX7_fill 52 = .ok (.iload_n 1, 1) := by decide +kernel
theorem dX7_fill_53 : decode cX7_fill 53 = .ok (.iload_n 2, 1) := by decide +kernel
theorem dX7_fill_54 : decode cX7_fill 54 = .ok (.invokevirtual 101, 3) := by decide +kernel
theorem dX7_fill_57 : decode cX7_fill 57 = .ok (.ireturn, 1) := by decide +kernel
set_option maxRecDepth 20000 in
theorem ggX7_vent_X7_isBalloon : GoodIn wsX7_vent wsX7_isBalloon := goodIn_r _ [4, 5, 6, 3, 7] (by decide +kernel) (by decide +kernel)
set_option maxRecDepth 20000 in
theorem gX7_vent_X7_isBalloon : GoodIn wsX7_vent (va_wsS RX7 88 yX7_isBalloon wsX7_isBalloon) := goodIn_app (goodIn_of _ (by decide +kernel)) ggX7_vent_X7_isBalloon
set_option maxRecDepth 20000 in
theorem ggX7_vent_X7_isAmount : GoodIn wsX7_vent wsX7_isAmount := goodIn_r _ [10, 5, 6, 3, 7] (by decide +kernel) (by decide +kernel)
set_option maxRecDepth 20000 in
theorem gX7_vent_X7_isAmount : GoodIn wsX7_vent (va_wsS RX7 92 yX7_isAmount wsX7_isAmount) := goodIn_app (goodIn_of _ (by decide +kernel)) ggX7_vent_X7_isAmount
set_option maxRecDepth 20000 in
theorem ggX7_vent_X7_noVent : GoodIn wsX7_vent wsX7_noVent := goodIn_r _ [14, 15, 16, 17, 3, 18, 19, 70, 71, 72, 73, 74, 75, 76, 77, 78, 79, 80, 81] (by decide +kernel) (by decide +kernel)
set_option maxRecDepth 20000 in
theorem gX7_vent_X7_noVent : GoodIn wsX7_vent (wsV RX7 104 RX7 yX7_noVent wsX7_noVent) := goodIn_app (goodIn_of _ (by decide +kernel)) ggX7_vent_X7_noVent
set_option maxRecDepth 20000 in
theorem ggX7_vent_X7_holds : GoodIn wsX7_vent wsX7_holds := goodIn_r _ [23, 24, 70, 71, 72, 73, 74, 75, 76, 77, 78, 79, 80, 81] (by decide +kernel) (by decide +kernel)
set_option maxRecDepth 20000 in
theorem gX7_vent_X7_holds : GoodIn wsX7_vent (wsV RX7 98 RX7 yX7_holds wsX7_holds) := goodIn_app (goodIn_of _ (by decide +kernel)) ggX7_vent_X7_holds
set_option maxRecDepth 20000 in
theorem ggX7_vent_X7_save : GoodIn wsX7_vent wsX7_save := goodIn_r _ [28, 29, 30, 31, 32, 3, 33, 19, 70, 71, 72, 73, 74, 75, 76, 77, 78, 79, 80, 81] (by decide +kernel) (by decide +kernel)
set_option maxRecDepth 20000 in
theorem gX7_vent_X7_save : GoodIn wsX7_vent (wsV RX7 85 RX7 yX7_save wsX7_save) := goodIn_app (goodIn_of _ (by decide +kernel)) ggX7_vent_X7_save
set_option maxRecDepth 20000 in
theorem ggX7_vent_X7_vents : GoodIn wsX7_vent wsX7_vents := goodIn_r _ [37, 19, 38, 39, 40, 3, 41, 42, 43, 44, 45, 46, 47, 48, 49, 50, 51, 52, 53, 54, 55, 56, 57, 58, 15, 16, 17, 18, 59, 60, 61, 62, 63, 64, 65, 66, 67, 68, 69, 70, 71, 72, 73, 74, 75, 76, 77, 78, 79, 80, 81] (by decide +kernel) (by decide +kernel)
set_option maxRecDepth 20000 in
theorem gX7_vent_X7_vents : GoodIn wsX7_vent (wsV RX7 107 RX7 yX7_vents wsX7_vents) := goodIn_app (goodIn_of _ (by decide +kernel)) ggX7_vent_X7_vents
theorem dX7_vent_0 : decode cX7_vent 0 = .ok (.iload_n 1, 1) := by decide +kernel
theorem dX7_vent_1 : decode cX7_vent 1 = .ok (.invokestatic 88, 3) := by decide +kernel
theorem dX7_vent_4 : decode cX7_vent 4 = .ok (.istore_n 3, 1) := by decide +kernel
theorem dX7_vent_5 : decode cX7_vent 5 = .ok (.aload_n 0, 1) := by decide +kernel
theorem dX7_vent_6 : decode cX7_vent 6 = .ok (.iload_n 3, 1) := by decide +kernel
theorem dX7_vent_7 : decode cX7_vent 7 = .ok (.ifCond .ne 7, 3) := by decide +kernel
theorem dX7_vent_10 : decode cX7_vent 10 = .ok (.iconst 1, 1) := by decide +kernel
theorem dX7_vent_11 : decode cX7_vent 11 = .ok (.goto 28, 3) := by decide +kernel
theorem dX7_vent_14 : decode cX7_vent 14 = .ok (.iload_n 2, 1) := by decide +kernel
theorem dX7_vent_15 : decode cX7_vent 15 = .ok (.invokestatic 92, 3) := by decide +kernel
theorem dX7_vent_18 : decode cX7_vent 18 = .ok (.ifCond .ne 7, 3) := by decide +kernel
theorem dX7_vent_21 : decode cX7_vent 21 = .ok (.iconst 2, 1) := by decide +kernel
theorem dX7_vent_22 : decode cX7_vent 22 = .ok (.goto 17, 3) := by decide +kernel
theorem dX7_vent_25 : decode cX7_vent 25 = .ok (.aload_n 0, 1) := by decide +kernel
theorem dX7_vent_26 : decode cX7_vent 26 = .ok (.iload_n 1, 1) := by decide +kernel
theorem dX7_vent_27 : decode cX7_vent 27 = .ok (.iload_n 2, 1) := by decide +kernel
theorem dX7_vent_28 : decode cX7_vent 28 = .ok (.invokevirtual 104, 3) := by decide +kernel
theorem dX7_vent_31 : decode cX7_vent 31 = .ok (.ifCond .le 7, 3) := by decide +kernel
theorem dX7_vent_34 : decode cX7_vent 34 = .ok (.iconst 3, 1) := by decide +kernel
theorem dX7_vent_35 : decode cX7_vent 35 = .ok (.goto 4, 3) := by decide +kernel
theorem dX7_vent_38 : decode cX7_vent 38 = .ok (.iconst 0, 1) := by decide +kernel
theorem dX7_vent_39 : decode cX7_vent 39 = .ok (.invokevirtual 98, 3) := by decide +kernel
theorem dX7_vent_42 : decode cX7_vent 42 = .ok (.ifCond .ne 5, 3) := by decide +kernel
theorem dX7_vent_45 : decode cX7_vent 45 = .ok (.iconst 0, 1) := by decide +kernel
theorem dX7_vent_46 : decode cX7_vent 46 = .ok (.ireturn, 1) := by decide +kernel
theorem dX7_vent_47 : decode cX7_vent 47 = .ok (.aload_n 0, 1) := by decide +kernel
theorem dX7_vent_48 : decode cX7_vent 48 = .ok (.invokevirtual 85, 3) := by decide +kernel
theorem dX7_vent_51 : decode cX7_vent 51 = .ok (.aload_n 0, 1) := by decide +kernel
theorem dX7_vent_52 : decode cX7_vent 52 = .ok (.iload_n 1, 1) := by decide +kernel
theorem dX7_vent_53 : decode cX7_vent 53 = .ok (.iload_n 2, 1) := by decide +kernel
theorem dX7_vent_54 : decode cX7_vent 54 = .ok (.invokevirtual 107, 3) := by decide +kernel
theorem dX7_vent_57 : decode cX7_vent 57 = .ok (.ireturn, 1) := by decide +kernel
set_option maxRecDepth 20000 in
theorem ggX7_drop_X7_isBalloon : GoodIn wsX7_drop wsX7_isBalloon := goodIn_r _ [4, 5, 6, 3, 7] (by decide +kernel) (by decide +kernel)
set_option maxRecDepth 20000 in
theorem gX7_drop_X7_isBalloon : GoodIn wsX7_drop (va_wsS RX7 88 yX7_isBalloon wsX7_isBalloon) := goodIn_app (goodIn_of _ (by decide +kernel)) ggX7_drop_X7_isBalloon
set_option maxRecDepth 20000 in
theorem ggX7_drop_X7_noDrop : GoodIn wsX7_drop wsX7_noDrop := goodIn_r _ [11, 12, 13, 14, 3, 15, 16, 67, 68, 69, 70, 71, 72, 73, 74, 75, 76, 77, 78] (by decide +kernel) (by decide +kernel)
set_option maxRecDepth 20000 in
theorem gX7_drop_X7_noDrop : GoodIn wsX7_drop (wsV RX7 110 RX7 yX7_noDrop wsX7_noDrop) := goodIn_app (goodIn_of _ (by decide +kernel)) ggX7_drop_X7_noDrop
set_option maxRecDepth 20000 in
theorem ggX7_drop_X7_holds : GoodIn wsX7_drop wsX7_holds := goodIn_r _ [20, 21, 67, 68, 69, 70, 71, 72, 73, 74, 75, 76, 77, 78] (by decide +kernel) (by decide +kernel)
set_option maxRecDepth 20000 in
theorem gX7_drop_X7_holds : GoodIn wsX7_drop (wsV RX7 98 RX7 yX7_holds wsX7_holds) := goodIn_app (goodIn_of _ (by decide +kernel)) ggX7_drop_X7_holds
set_option maxRecDepth 20000 in
theorem ggX7_drop_X7_save : GoodIn wsX7_drop wsX7_save := goodIn_r _ [25, 26, 27, 28, 29, 3, 30, 16, 67, 68, 69, 70, 71, 72, 73, 74, 75, 76, 77, 78] (by decide +kernel) (by decide +kernel)
set_option maxRecDepth 20000 in
theorem gX7_drop_X7_save : GoodIn wsX7_drop (wsV RX7 85 RX7 yX7_save wsX7_save) := goodIn_app (goodIn_of _ (by decide +kernel)) ggX7_drop_X7_save
set_option maxRecDepth 20000 in
theorem ggX7_drop_X7_drops : GoodIn wsX7_drop wsX7_drops := goodIn_r _ [34, 16, 35, 36, 37, 3, 38, 39, 40, 41, 42, 43, 44, 45, 46, 47, 48, 49, 50, 51, 52, 53, 54, 55, 12, 13, 14, 15, 56, 57, 58, 59, 60, 61, 62, 63, 64, 65, 66, 67, 68, 69, 70, 71, 72, 73, 74, 75, 76, 77, 78] (by decide +kernel) (by decide +kernel)
set_option maxRecDepth 20000 in
theorem gX7_drop_X7_drops : GoodIn wsX7_drop (wsV RX7 113 RX7 yX7_drops wsX7_drops) := goodIn_app (goodIn_of _ (by decide +kernel)) ggX7_drop_X7_drops
theorem dX7_drop_0 : decode cX7_drop 0 = .ok (.iload_n 1, 1) := by decide +kernel
theorem dX7_drop_1 : decode cX7_drop 1 = .ok (.invokestatic 88, 3) := by decide +kernel
theorem dX7_drop_4 : decode cX7_drop 4 = .ok (.istore_n 2, 1) := by decide +kernel
theorem dX7_drop_5 : decode cX7_drop 5 = .ok (.aload_n 0, 1) := by decide +kernel
theorem dX7_drop_6 : decode cX7_drop 6 = .ok (.iload_n 2, 1) := by decide +kernel
theorem dX7_drop_7 : decode cX7_drop 7 = .ok (.ifCond .ne 7, 3) := by decide +kernel
theorem dX7_drop_10 : decode cX7_drop 10 = .ok (.iconst 1, 1) := by decide +kernel
theorem dX7_drop_11 : decode cX7_drop 11 = .ok (.goto 16, 3) := by decide +kernel
theorem dX7_drop_14 : decode cX7_drop 14 = .ok (.aload_n 0, 1) := by decide +kernel
theorem dX7_drop_15 : decode cX7_drop 15 = .ok (.iload_n 1, 1) := by decide +kernel
theorem dX7_drop_16 : decode cX7_drop 16 = .ok (.invokevirtual 110, 3) := by decide +kernel
theorem dX7_drop_19 : decode cX7_drop 19 = .ok (.ifCond .le 7, 3) := by decide +kernel
theorem dX7_drop_22 : decode cX7_drop 22 = .ok (.iconst 2, 1) := by decide +kernel
theorem dX7_drop_23 : decode cX7_drop 23 = .ok (.goto 4, 3) := by decide +kernel
theorem dX7_drop_26 : decode cX7_drop 26 = .ok (.iconst 0, 1) := by decide +kernel
theorem dX7_drop_27 : decode cX7_drop 27 = .ok (.invokevirtual 98, 3) := by decide +kernel
theorem dX7_drop_30 : decode cX7_drop 30 = .ok (.ifCond .ne 5, 3) := by decide +kernel
theorem dX7_drop_33 : decode cX7_drop 33 = .ok (.iconst 0, 1) := by decide +kernel
theorem dX7_drop_34 : decode cX7_drop 34 = .ok (.ireturn, 1) := by decide +kernel
theorem dX7_drop_35 : decode cX7_drop 35 = .ok (.aload_n 0, 1) := by decide +kernel
theorem dX7_drop_36 : decode cX7_drop 36 = .ok (.invokevirtual 85, 3) := by decide +kernel
theorem dX7_drop_39 : decode cX7_drop 39 = .ok (.aload_n 0, 1) := by decide +kernel
theorem dX7_drop_40 : decode cX7_drop 40 = .ok (.iload_n 1, 1) := by decide +kernel
theorem dX7_drop_41 : decode cX7_drop 41 = .ok (.invokevirtual 113, 3) := by decide +kernel
theorem dX7_drop_44 : decode cX7_drop 44 = .ok (.ireturn, 1) := by decide +kernel
set_option maxRecDepth 20000 in
theorem ggX7_put_X7_isBalloon : GoodIn wsX7_put wsX7_isBalloon := goodIn_r _ [4, 5, 6, 3, 7] (by decide +kernel) (by decide +kernel)
set_option maxRecDepth 20000 in
theorem gX7_put_X7_isBalloon : GoodIn wsX7_put (va_wsS RX7 88 yX7_isBalloon wsX7_isBalloon) := goodIn_app (goodIn_of _ (by decide +kernel)) ggX7_put_X7_isBalloon
set_option maxRecDepth 20000 in
theorem ggX7_put_X7_noPut : GoodIn wsX7_put wsX7_noPut := goodIn_r _ [11, 12, 13, 14, 3, 15, 16, 17, 18, 19, 20, 21, 22, 23, 24, 25, 26, 27, 28, 29, 30, 31, 32, 33, 34, 35, 36, 37, 38, 39, 40, 41, 42, 43, 44, 67, 68, 69, 70, 71, 72, 73, 74, 75, 76, 77, 78] (by decide +kernel) (by decide +kernel)
set_option maxRecDepth 20000 in
theorem gX7_put_X7_noPut : GoodIn wsX7_put (wsV RX7 116 RX7 yX7_noPut wsX7_noPut) := goodIn_app (goodIn_of _ (by decide +kernel)) ggX7_put_X7_noPut
set_option maxRecDepth 20000 in
theorem ggX7_put_X7_holds : GoodIn wsX7_put wsX7_holds := goodIn_r _ [48, 49, 67, 68, 69, 70, 71, 72, 73, 74, 75, 76, 77, 78] (by decide +kernel) (by decide +kernel)
set_option maxRecDepth 20000 in
theorem gX7_put_X7_holds : GoodIn wsX7_put (wsV RX7 98 RX7 yX7_holds wsX7_holds) := goodIn_app (goodIn_of _ (by decide +kernel)) ggX7_put_X7_holds
set_option maxRecDepth 20000 in
theorem ggX7_put_X7_save : GoodIn wsX7_put wsX7_save := goodIn_r _ [53, 54, 55, 56, 57, 3, 58, 16, 67, 68, 69, 70, 71, 72, 73, 74, 75, 76, 77, 78] (by decide +kernel) (by decide +kernel)
set_option maxRecDepth 20000 in
theorem gX7_put_X7_save : GoodIn wsX7_put (wsV RX7 85 RX7 yX7_save wsX7_save) := goodIn_app (goodIn_of _ (by decide +kernel)) ggX7_put_X7_save
set_option maxRecDepth 20000 in
theorem ggX7_put_X7_puts : GoodIn wsX7_put wsX7_puts := goodIn_r _ [62, 63, 64, 65, 3, 66, 16, 12, 13, 14, 15, 67, 68, 69, 70, 71, 72, 73, 74, 75, 76, 77, 78] (by decide +kernel) (by decide +kernel)
set_option maxRecDepth 20000 in
theorem gX7_put_X7_puts : GoodIn wsX7_put (wsV RX7 119 RX7 yX7_puts wsX7_puts) := goodIn_app (goodIn_of _ (by decide +kernel)) ggX7_put_X7_puts
theorem dX7_put_0 : decode cX7_put 0 = .ok (.iload_n 1, 1) := by decide +kernel
theorem dX7_put_1 : decode cX7_put 1 = .ok (.invokestatic 88, 3) := by decide +kernel
theorem dX7_put_4 : decode cX7_put 4 = .ok (.istore_n 2, 1) := by decide +kernel
theorem dX7_put_5 : decode cX7_put 5 = .ok (.aload_n 0, 1) := by decide +kernel
theorem dX7_put_6 : decode cX7_put 6 = .ok (.iload_n 2, 1) := by decide +kernel
theorem dX7_put_7 : decode cX7_put 7 = .ok (.ifCond .ne 7, 3) := by decide +kernel
theorem dX7_put_10 : decode cX7_put 10 = .ok (.iconst 1, 1) := by decide +kernel
theorem dX7_put_11 : decode cX7_put 11 = .ok (.goto 16, 3) := by decide +kernel
theorem dX7_put_14 : decode cX7_put 14 = .ok (.aload_n 0, 1) := by decide +kernel
theorem dX7_put_15 : decode cX7_put 15 = .ok (.iload_n 1, 1) := by decide +kernel
theorem dX7_put_16 : decode cX7_put 16 = .ok (.invokevirtual 116, 3) := by decide +kernel
theorem dX7_put_19 : decode cX7_put 19 = .ok (.ifCond .le 7, 3) := by decide +kernel
theorem dX7_put_22 : decode cX7_put 22 = .ok (.iconst 2, 1) := by decide +kernel
theorem dX7_put_23 : decode cX7_put 23 = .ok (.goto 4, 3) := by decide +kernel
theorem dX7_put_26 : decode cX7_put 26 = .ok (.iconst 0, 1) := by decide +kernel
theorem dX7_put_27 : decode cX7_put 27 = .ok (.invokevirtual 98, 3) := by decide +kernel
theorem dX7_put_30 : decode cX7_put 30 = .ok (.ifCond .ne 5, 3) := by decide +kernel
theorem dX7_put_33 : decode cX7_put 33 = .ok (.iconst 0, 1) := by decide +kernel
theorem dX7_put_34 : decode cX7_put 34 = .ok (.ireturn, 1) := by decide +kernel
theorem dX7_put_35 : decode cX7_put 35 = .ok (.aload_n 0, 1) := by decide +kernel
theorem dX7_put_36 : decode cX7_put 36 = .ok (.invokevirtual 85, 3) := by decide +kernel
theorem dX7_put_39 : decode cX7_put 39 = .ok (.aload_n 0, 1) := by decide +kernel
theorem dX7_put_40 : decode cX7_put 40 = .ok (.iload_n 1, 1) := by decide +kernel
theorem dX7_put_41 : decode cX7_put 41 = .ok (.invokevirtual 119, 3) := by decide +kernel
theorem dX7_put_44 : decode cX7_put 44 = .ok (.ireturn, 1) := by decide +kernel
set_option maxRecDepth 20000 in
theorem ggX7_leak_X7_isBalloon : GoodIn wsX7_leak wsX7_isBalloon := goodIn_r _ [4, 5, 6, 3, 7] (by decide +kernel) (by decide +kernel)
set_option maxRecDepth 20000 in
theorem gX7_leak_X7_isBalloon : GoodIn wsX7_leak (va_wsS RX7 88 yX7_isBalloon wsX7_isBalloon) := goodIn_app (goodIn_of _ (by decide +kernel)) ggX7_leak_X7_isBalloon
set_option maxRecDepth 20000 in
theorem ggX7_leak_X7_in : GoodIn wsX7_leak wsX7_in := goodIn_r _ [7] (by decide +kernel) (by decide +kernel)
set_option maxRecDepth 20000 in
theorem gX7_leak_X7_in : GoodIn wsX7_leak (va_wsS RX7 23 yX7_in wsX7_in) := goodIn_app (goodIn_of _ (by decide +kernel)) ggX7_leak_X7_in
set_option maxRecDepth 20000 in
theorem ggX7_leak_X7_holds : GoodIn wsX7_leak wsX7_holds := goodIn_r _ [11, 12, 27, 28, 29, 30, 31, 32, 33, 34, 35, 36, 37, 38] (by decide +kernel) (by decide +kernel)
set_option maxRecDepth 20000 in
theorem gX7_leak_X7_holds : GoodIn wsX7_leak (wsV RX7 98 RX7 yX7_holds wsX7_holds) := goodIn_app (goodIn_of _ (by decide +kernel)) ggX7_leak_X7_holds
set_option maxRecDepth 20000 in
theorem ggX7_leak_X7_changed : GoodIn wsX7_leak wsX7_changed := goodIn_r _ [16, 17, 18, 19, 20, 3, 21, 22, 23, 24, 25, 26, 27, 28, 29, 30, 31, 32, 33, 34, 35, 36, 37, 38] (by decide +kernel) (by decide +kernel)
set_option maxRecDepth 20000 in
theorem gX7_leak_X7_changed : GoodIn wsX7_leak (wsV RX7 122 RX7 yX7_changed wsX7_changed) := goodIn_app (goodIn_of _ (by decide +kernel)) ggX7_leak_X7_changed
theorem dX7_leak_0 : decode cX7_leak 0 = .ok (.aload_n 0, 1) := by decide +kernel
theorem dX7_leak_1 : decode cX7_leak 1 = .ok (.iload_n 1, 1) := by decide +kernel
theorem dX7_leak_2 : decode cX7_leak 2 = .ok (.invokestatic 88, 3) := by decide +kernel
theorem dX7_leak_5 : decode cX7_leak 5 = .ok (.ifCond .ne 7, 3) := by decide +kernel
theorem dX7_leak_8 : decode cX7_leak 8 = .ok (.iconst 1, 1) := by decide +kernel
theorem dX7_leak_9 : decode cX7_leak 9 = .ok (.goto 18, 3) := by decide +kernel
theorem dX7_leak_12 : decode cX7_leak 12 = .ok (.iload_n 2, 1) := by decide +kernel
theorem dX7_leak_13 : decode cX7_leak 13 = .ok (.iconst 0, 1) := by decide +kernel
theorem dX7_leak_14 : decode cX7_leak 14 = .ok (.bipush 9, 2) := by decide +kernel
theorem dX7_leak_16 : decode cX7_leak 16 = .ok (.invokestatic 23, 3) := by decide +kernel
theorem dX7_leak_19 : decode cX7_leak 19 = .ok (.ifCond .ne 7, 3) := by decide +kernel
theorem dX7_leak_22 : decode cX7_leak 22 = .ok (.iconst 2, 1) := by decide +kernel
theorem dX7_leak_23 : decode cX7_leak 23 = .ok (.goto 4, 3) := by decide +kernel
theorem dX7_leak_26 : decode cX7_leak 26 = .ok (.iconst 0, 1) := by decide +kernel
theorem dX7_leak_27 : decode cX7_leak 27 = .ok (.invokevirtual 98, 3) := by decide +kernel
theorem dX7_leak_30 : decode cX7_leak 30 = .ok (.ifCond .eq 19, 3) := by decide +kernel
theorem dX7_leak_33 : decode cX7_leak 33 = .ok (.aload_n 0, 1) := by decide +kernel
theorem dX7_leak_34 : decode cX7_leak 34 = .ok (.bipush 9, 2) := by decide +kernel
theorem dX7_leak_36 : decode cX7_leak 36 = .ok (.iconst 5, 1) := by decide +kernel
theorem dX7_leak_37 : decode cX7_leak 37 = .ok (.iload_n 1, 1) := by decide +kernel
theorem dX7_leak_38 : decode cX7_leak 38 = .ok (.imul, 1) := by decide +kernel
theorem dX7_leak_39 : decode cX7_leak 39 = .ok (.iadd, 1) := by decide +kernel
theorem dX7_leak_40 : decode cX7_leak 40 = .ok (.iconst 2, 1) := by decide +kernel
theorem dX7_leak_41 : decode cX7_leak 41 = .ok (.iadd, 1) := by decide +kernel
theorem dX7_leak_42 : decode cX7_leak 42 = .ok (.iload_n 2, 1) := by decide +kernel
theorem dX7_leak_43 : decode cX7_leak 43 = .ok (.invokevirtual 122, 3) := by decide +kernel
theorem dX7_leak_46 : decode cX7_leak 46 = .ok (.goto 4, 3) := by decide +kernel
theorem dX7_leak_49 : decode cX7_leak 49 = .ok (.iconst 0, 1) := by decide +kernel
theorem dX7_leak_50 : decode cX7_leak 50 = .ok (.ireturn, 1) := by decide +kernel
set_option maxRecDepth 20000 in
theorem ggX7_lowestOf_X7_isTied : GoodIn wsX7_lowestOf wsX7_isTied := goodIn_r _ [5, 6, 7, 8, 9, 10, 11, 12, 13, 14, 15, 16, 17, 18] (by decide +kernel) (by decide +kernel)
set_option maxRecDepth 20000 in
theorem gX7_lowestOf_X7_isTied : GoodIn wsX7_lowestOf (wsV RX7 38 RX7 yX7_isTied wsX7_isTied) := goodIn_app (goodIn_of _ (by decide +kernel)) ggX7_lowestOf_X7_isTied
theorem dX7_lowestOf_0 : decode cX7_lowestOf 0 = .ok (.iload_n 1, 1) := by decide +kernel
theorem dX7_lowestOf_1 : decode cX7_lowestOf 1 = .ok (.istore_n 2, 1) := by decide +kernel
theorem dX7_lowestOf_2 : decode cX7_lowestOf 2 = .ok (.iload_n 2, 1) := by decide +kernel
theorem dX7_lowestOf_3 : decode cX7_lowestOf 3 = .ok (.ifCond .le 20, 3) := by decide +kernel
theorem dX7_lowestOf_6 : decode cX7_lowestOf 6 = .ok (.aload_n 0, 1) := by decide +kernel
theorem dX7_lowestOf_7 : decode cX7_lowestOf 7 = .ok (.iconst 0, 1) := by decide +kernel
theorem dX7_lowestOf_8 : decode cX7_lowestOf 8 = .ok (.iload_n 2, 1) := by decide +kernel
theorem dX7_lowestOf_9 : decode cX7_lowestOf 9 = .ok (.iconst 1, 1) := by decide +kernel
theorem dX7_lowestOf_10 : decode cX7_lowestOf 10 = .ok (.isub, 1) := by decide +kernel
theorem dX7_lowestOf_11 : decode cX7_lowestOf 11 = .ok (.invokevirtual 38, 3) := by decide +kernel
theorem dX7_lowestOf_14 : decode cX7_lowestOf 14 = .ok (.ifCond .eq 9, 3) := by decide +kernel
theorem dX7_lowestOf_17 : decode cX7_lowestOf 17 = .ok (.iinc 2 (-1), 3) := by decide +kernel
theorem dX7_lowestOf_20 : decode cX7_lowestOf 20 = .ok (.goto (-18), 3) := by decide +kernel
theorem dX7_lowestOf_23 : decode cX7_lowestOf 23 = .ok (.iload_n 2, 1) := by decide +kernel
theorem dX7_lowestOf_24 : decode cX7_lowestOf 24 = .ok (.ireturn, 1) := by decide +kernel
set_option maxRecDepth 20000 in
theorem ggX7_highestOf_X7_isTied : GoodIn wsX7_highestOf wsX7_isTied := goodIn_r _ [5, 6, 7, 8, 9, 10, 11, 12, 13, 14, 15, 16, 17, 18] (by decide +kernel) (by decide +kernel)
set_option maxRecDepth 20000 in
theorem gX7_highestOf_X7_isTied : GoodIn wsX7_highestOf (wsV RX7 38 RX7 yX7_isTied wsX7_isTied) := goodIn_app (goodIn_of _ (by decide +kernel)) ggX7_highestOf_X7_isTied
theorem dX7_highestOf_0 : decode cX7_highestOf 0 = .ok (.iload_n 1, 1) := by decide +kernel
theorem dX7_highestOf_1 : decode cX7_highestOf 1 = .ok (.istore_n 2, 1) := by decide +kernel
theorem dX7_highestOf_2 : decode cX7_highestOf 2 = .ok (.iload_n 2, 1) := by decide +kernel
theorem dX7_highestOf_3 : decode cX7_highestOf 3 = .ok (.bipush 7, 2) := by decide +kernel
theorem dX7_highestOf_5 : decode cX7_highestOf 5 = .ok (.if_icmp .ge 18, 3) := by decide +kernel
theorem dX7_highestOf_8 : decode cX7_highestOf 8 = .ok (.aload_n 0, 1) := by decide +kernel
theorem dX7_highestOf_9 : decode cX7_highestOf 9 = .ok (.iconst 0, 1) := by decide +kernel
theorem dX7_highestOf_10 : decode cX7_highestOf 10 = .ok (.iload_n 2, 1) := by decide +kernel
theorem dX7_highestOf_11 : decode cX7_highestOf 11 = .ok (.invokevirtual 38, 3) := by decide +kernel
theorem dX7_highestOf_14 : decode cX7_highestOf 14 = .ok (.ifCond .eq 9, 3) := by decide +kernel
theorem dX7_highestOf_17 : decode cX7_highestOf 17 = .ok (.iinc 2 1, 3) := by decide +kernel
theorem dX7_highestOf_20 : decode cX7_highestOf 20 = .ok (.goto (-18), 3) := by decide +kernel
theorem dX7_highestOf_23 : decode cX7_highestOf 23 = .ok (.iload_n 2, 1) := by decide +kernel
theorem dX7_highestOf_24 : decode cX7_highestOf 24 = .ok (.ireturn, 1) := by decide +kernel
set_option maxRecDepth 20000 in
theorem ggX7_stringOf_X7_highestOf : GoodIn wsX7_stringOf wsX7_highestOf := goodIn_r _ [5, 6, 7, 8, 4, 9, 10, 15, 16, 17, 18, 19, 20, 21, 22, 23, 24, 25, 26] (by decide +kernel) (by decide +kernel)
set_option maxRecDepth 20000 in
theorem gX7_stringOf_X7_highestOf : GoodIn wsX7_stringOf (wsV RX7 125 RX7 yX7_highestOf wsX7_highestOf) := goodIn_app (goodIn_of _ (by decide +kernel)) ggX7_stringOf_X7_highestOf
set_option maxRecDepth 20000 in
theorem ggX7_stringOf_X7_lowestOf : GoodIn wsX7_stringOf wsX7_lowestOf := goodIn_r _ [14, 6, 7, 8, 4, 9, 10, 15, 16, 17, 18, 19, 20, 21, 22, 23, 24, 25, 26] (by decide +kernel) (by decide +kernel)
set_option maxRecDepth 20000 in
theorem gX7_stringOf_X7_lowestOf : GoodIn wsX7_stringOf (wsV RX7 128 RX7 yX7_lowestOf wsX7_lowestOf) := goodIn_app (goodIn_of _ (by decide +kernel)) ggX7_stringOf_X7_lowestOf
theorem dX7_stringOf_0 : decode cX7_stringOf 0 = .ok (.aload_n 0, 1) := by decide +kernel
theorem dX7_stringOf_1 : decode cX7_stringOf 1 = .ok (.iload_n 1, 1) := by decide +kernel
theorem dX7_stringOf_2 : decode cX7_stringOf 2 = .ok (.invokevirtual 125, 3) := by decide +kernel
theorem dX7_stringOf_5 : decode cX7_stringOf 5 = .ok (.aload_n 0, 1) := by decide +kernel
theorem dX7_stringOf_6 : decode cX7_stringOf 6 = .ok (.iload_n 1, 1) := by decide +kernel
theorem dX7_stringOf_7 : decode cX7_stringOf 7 = .ok (.invokevirtual 128, 3) := by decide +kernel
theorem dX7_stringOf_10 : decode cX7_stringOf 10 = .ok (.isub, 1) := by decide +kernel
theorem dX7_stringOf_11 : decode cX7_stringOf 11 = .ok (.iconst 1, 1) := by decide +kernel
theorem dX7_stringOf_12 : decode cX7_stringOf 12 = .ok (.iadd, 1) := by decide +kernel
theorem dX7_stringOf_13 : decode cX7_stringOf 13 = .ok (.ireturn, 1) := by decide +kernel
set_option maxRecDepth 20000 in
theorem ggX7_tie_X7_isRibbon : GoodIn wsX7_tie wsX7_isRibbon := goodIn_r _ [5, 6, 7, 4, 8] (by decide +kernel) (by decide +kernel)
set_option maxRecDepth 20000 in
theorem gX7_tie_X7_isRibbon : GoodIn wsX7_tie (va_wsS RX7 131 yX7_isRibbon wsX7_isRibbon) := goodIn_app (goodIn_of _ (by decide +kernel)) ggX7_tie_X7_isRibbon
set_option maxRecDepth 20000 in
theorem ggX7_tie_X7_in : GoodIn wsX7_tie wsX7_in := goodIn_r _ [8] (by decide +kernel) (by decide +kernel)
set_option maxRecDepth 20000 in
theorem gX7_tie_X7_in : GoodIn wsX7_tie (va_wsS RX7 23 yX7_in wsX7_in) := goodIn_app (goodIn_of _ (by decide +kernel)) ggX7_tie_X7_in
set_option maxRecDepth 20000 in
theorem ggX7_tie_X7_noTie : GoodIn wsX7_tie wsX7_noTie := goodIn_r _ [12, 13, 14, 15, 16, 4, 17, 1, 18, 19, 20, 21, 22, 23, 24, 25, 26, 27, 28, 29, 30, 31, 32, 33, 34, 35, 36, 37, 38, 39, 40, 6, 7, 8, 67, 68, 69, 70, 71, 72, 73, 74, 75, 76, 77, 78] (by decide +kernel) (by decide +kernel)
set_option maxRecDepth 20000 in
theorem gX7_tie_X7_noTie : GoodIn wsX7_tie (wsV RX7 134 RX7 yX7_noTie wsX7_noTie) := goodIn_app (goodIn_of _ (by decide +kernel)) ggX7_tie_X7_noTie
set_option maxRecDepth 20000 in
theorem ggX7_tie_X7_holds : GoodIn wsX7_tie wsX7_holds := goodIn_r _ [44, 45, 67, 68, 69, 70, 71, 72, 73, 74, 75, 76, 77, 78] (by decide +kernel) (by decide +kernel)
set_option maxRecDepth 20000 in
theorem gX7_tie_X7_holds : GoodIn wsX7_tie (wsV RX7 98 RX7 yX7_holds wsX7_holds) := goodIn_app (goodIn_of _ (by decide +kernel)) ggX7_tie_X7_holds
set_option maxRecDepth 20000 in
theorem ggX7_tie_X7_save : GoodIn wsX7_tie wsX7_save := goodIn_r _ [49, 50, 51, 52, 53, 4, 54, 1, 67, 68, 69, 70, 71, 72, 73, 74, 75, 76, 77, 78] (by decide +kernel) (by decide +kernel)
set_option maxRecDepth 20000 in
theorem gX7_tie_X7_save : GoodIn wsX7_tie (wsV RX7 85 RX7 yX7_save wsX7_save) := goodIn_app (goodIn_of _ (by decide +kernel)) ggX7_tie_X7_save
set_option maxRecDepth 20000 in
theorem ggX7_tie_X7_stringOf : GoodIn wsX7_tie wsX7_stringOf := goodIn_r _ [58, 59, 60, 61, 4, 62, 14, 15, 16, 17, 1, 63, 64, 65, 66, 67, 68, 69, 70, 71, 72, 73, 74, 75, 76, 77, 78] (by decide +kernel) (by decide +kernel)
set_option maxRecDepth 20000 in
theorem gX7_tie_X7_stringOf : GoodIn wsX7_tie (wsV RX7 137 RX7 yX7_stringOf wsX7_stringOf) := goodIn_app (goodIn_of _ (by decide +kernel)) ggX7_tie_X7_stringOf
theorem dX7_tie_0 : decode cX7_tie 0 = .ok (.iload_n 1, 1) := by decide +kernel
theorem dX7_tie_1 : decode cX7_tie 1 = .ok (.invokestatic 131, 3) := by decide +kernel
theorem dX7_tie_4 : decode cX7_tie 4 = .ok (.istore_n 3, 1) := by decide +kernel
theorem dX7_tie_5 : decode cX7_tie 5 = .ok (.aload_n 0, 1) := by decide +kernel
theorem dX7_tie_6 : decode cX7_tie 6 = .ok (.iload_n 3, 1) := by decide +kernel
theorem dX7_tie_7 : decode cX7_tie 7 = .ok (.ifCond .ne 7, 3) := by decide +kernel
theorem dX7_tie_10 : decode cX7_tie 10 = .ok (.iconst 1, 1) := by decide +kernel
theorem dX7_tie_11 : decode cX7_tie 11 = .ok (.goto 32, 3) := by decide +kernel
theorem dX7_tie_14 : decode cX7_tie 14 = .ok (.iload_n 2, 1) := by decide +kernel
theorem dX7_tie_15 : decode cX7_tie 15 = .ok (.iconst 0, 1) := by decide +kernel
theorem dX7_tie_16 : decode cX7_tie 16 = .ok (.sipush 300, 3) := by decide +kernel
theorem dX7_tie_19 : decode cX7_tie 19 = .ok (.invokestatic 23, 3) := by decide +kernel
theorem dX7_tie_22 : decode cX7_tie 22 = .ok (.ifCond .ne 7, 3) := by decide +kernel
theorem dX7_tie_25 : decode cX7_tie 25 = .ok (.iconst 2, 1) := by decide +kernel
theorem dX7_tie_26 : decode cX7_tie 26 = .ok (.goto 17, 3) := by decide +kernel
theorem dX7_tie_29 : decode cX7_tie 29 = .ok (.aload_n 0, 1) := by decide +kernel
theorem dX7_tie_30 : decode cX7_tie 30 = .ok (.iload_n 1, 1) := by decide +kernel
theorem dX7_tie_31 : decode cX7_tie 31 = .ok (.iload_n 2, 1) := by decide +kernel
theorem dX7_tie_32 : decode cX7_tie 32 = .ok (.invokevirtual 134, 3) := by decide +kernel
theorem dX7_tie_35 : decode cX7_tie 35 = .ok (.ifCond .le 7, 3) := by decide +kernel
theorem dX7_tie_38 : decode cX7_tie 38 = .ok (.iconst 3, 1) := by decide +kernel
theorem dX7_tie_39 : decode cX7_tie 39 = .ok (.goto 4, 3) := by decide +kernel
theorem dX7_tie_42 : decode cX7_tie 42 = .ok (.iconst 0, 1) := by decide +kernel
theorem dX7_tie_43 : decode cX7_tie 43 = .ok (.invokevirtual 98, 3) := by decide +kernel
theorem dX7_tie_46 : decode cX7_tie 46 = .ok (.ifCond .ne 5, 3) := by decide +kernel
theorem dX7_tie_49 : decode cX7_tie 49 = .ok (.iconst 0, 1) := by decide +kernel
theorem dX7_tie_50 : decode cX7_tie 50 = .ok (.ireturn, 1) := by decide +kernel
theorem dX7_tie_51 : decode cX7_tie 51 = .ok (.aload_n 0, 1) := by decide +kernel
theorem dX7_tie_52 : decode cX7_tie 52 = .ok (.invokevirtual 85, 3) := by decide +kernel
theorem dX7_tie_55 : decode cX7_tie 55 = .ok (.aload_n 0, 1) := by decide +kernel
theorem dX7_tie_56 : decode cX7_tie 56 = .ok (.getfield 7, 3) := by decide +kernel
theorem dX7_tie_59 : decode cX7_tie 59 = .ok (.bipush 49, 2) := by decide +kernel
theorem dX7_tie_61 : decode cX7_tie 61 = .ok (.iconst 3, 1) := by decide +kernel
theorem dX7_tie_62 : decode cX7_tie 62 = .ok (.iload_n 1, 1) := by decide +kernel
theorem dX7_tie_63 : decode cX7_tie 63 = .ok (.imul, 1) := by decide +kernel
theorem dX7_tie_64 : decode cX7_tie 64 = .ok (.iadd, 1) := by decide +kernel
theorem dX7_tie_65 : decode cX7_tie 65 = .ok (.iconst 1, 1) := by decide +kernel
theorem dX7_tie_66 : decode cX7_tie 66 = .ok (.iastore, 1) := by decide +kernel
theorem dX7_tie_67 : decode cX7_tie 67 = .ok (.aload_n 0, 1) := by decide +kernel
theorem dX7_tie_68 : decode cX7_tie 68 = .ok (.getfield 7, 3) := by decide +kernel
theorem dX7_tie_71 : decode cX7_tie 71 = .ok (.bipush 49, 2) := by decide +kernel
theorem dX7_tie_73 : decode cX7_tie 73 = .ok (.iconst 3, 1) := by decide +kernel
theorem dX7_tie_74 : decode cX7_tie 74 = .ok (.iload_n 1, 1) := by decide +kernel
theorem dX7_tie_75 : decode cX7_tie 75 = .ok (.imul, 1) := by decide +kernel
theorem dX7_tie_76 : decode cX7_tie 76 = .ok (.iadd, 1) := by decide +kernel
theorem dX7_tie_77 : decode cX7_tie 77 = .ok (.iconst 1, 1) := by decide +kernel
theorem dX7_tie_78 : decode cX7_tie 78 = .ok (.iadd, 1) := by decide +kernel
theorem dX7_tie_79 : decode cX7_tie 79 = .ok (.iload_n 2, 1) := by decide +kernel
theorem dX7_tie_80 : decode cX7_tie 80 = .ok (.iastore, 1) := by decide +kernel
theorem dX7_tie_81 : decode cX7_tie 81 = .ok (.aload_n 0, 1) := by decide +kernel
theorem dX7_tie_82 : decode cX7_tie 82 = .ok (.iload_n 1, 1) := by decide +kernel
theorem dX7_tie_83 : decode cX7_tie 83 = .ok (.invokevirtual 137, 3) := by decide +kernel
theorem dX7_tie_86 : decode cX7_tie 86 = .ok (.ireturn, 1) := by decide +kernel
set_option maxRecDepth 20000 in
theorem ggX7_cut_X7_isRibbon : GoodIn wsX7_cut wsX7_isRibbon := goodIn_r _ [4, 5, 6, 3, 7] (by decide +kernel) (by decide +kernel)
set_option maxRecDepth 20000 in
theorem gX7_cut_X7_isRibbon : GoodIn wsX7_cut (va_wsS RX7 131 yX7_isRibbon wsX7_isRibbon) := goodIn_app (goodIn_of _ (by decide +kernel)) ggX7_cut_X7_isRibbon
set_option maxRecDepth 20000 in
theorem ggX7_cut_X7_noCut : GoodIn wsX7_cut wsX7_noCut := goodIn_r _ [11, 12, 13, 14, 3, 15, 16, 63, 64, 65, 66, 67, 68, 69, 70, 71, 72, 73, 74] (by decide +kernel) (by decide +kernel)
set_option maxRecDepth 20000 in
theorem gX7_cut_X7_noCut : GoodIn wsX7_cut (wsV RX7 140 RX7 yX7_noCut wsX7_noCut) := goodIn_app (goodIn_of _ (by decide +kernel)) ggX7_cut_X7_noCut
set_option maxRecDepth 20000 in
theorem ggX7_cut_X7_holds : GoodIn wsX7_cut wsX7_holds := goodIn_r _ [20, 21, 63, 64, 65, 66, 67, 68, 69, 70, 71, 72, 73, 74] (by decide +kernel) (by decide +kernel)
set_option maxRecDepth 20000 in
theorem gX7_cut_X7_holds : GoodIn wsX7_cut (wsV RX7 98 RX7 yX7_holds wsX7_holds) := goodIn_app (goodIn_of _ (by decide +kernel)) ggX7_cut_X7_holds
set_option maxRecDepth 20000 in
theorem ggX7_cut_X7_save : GoodIn wsX7_cut wsX7_save := goodIn_r _ [25, 26, 27, 28, 29, 3, 30, 16, 63, 64, 65, 66, 67, 68, 69, 70, 71, 72, 73, 74] (by decide +kernel) (by decide +kernel)
set_option maxRecDepth 20000 in
theorem gX7_cut_X7_save : GoodIn wsX7_cut (wsV RX7 85 RX7 yX7_save wsX7_save) := goodIn_app (goodIn_of _ (by decide +kernel)) ggX7_cut_X7_save
set_option maxRecDepth 20000 in
theorem ggX7_cut_X7_cuts : GoodIn wsX7_cut wsX7_cuts := goodIn_r _ [34, 16, 35, 36, 37, 3, 38, 39, 40, 41, 42, 43, 44, 45, 46, 47, 48, 49, 50, 51, 52, 53, 54, 55, 12, 13, 14, 15, 56, 57, 58, 59, 60, 61, 62, 63, 64, 65, 66, 67, 68, 69, 70, 71, 72, 73, 74] (by decide +kernel) (by decide +kernel)
set_option maxRecDepth 20000 in
theorem gX7_cut_X7_cuts : GoodIn wsX7_cut (wsV RX7 143 RX7 yX7_cuts wsX7_cuts) := goodIn_app (goodIn_of _ (by decide +kernel)) ggX7_cut_X7_cuts
theorem dX7_cut_0 : decode cX7_cut 0 = .ok (.iload_n 1, 1) := by decide +kernel
theorem dX7_cut_1 : decode cX7_cut 1 = .ok (.invokestatic 131, 3) := by decide +kernel
theorem dX7_cut_4 : decode cX7_cut 4 = .ok (.istore_n 2, 1) := by decide +kernel
theorem dX7_cut_5 : decode cX7_cut 5 = .ok (.aload_n 0, 1) := by decide +kernel
theorem dX7_cut_6 : decode cX7_cut 6 = .ok (.iload_n 2, 1) := by decide +kernel
theorem dX7_cut_7 : decode cX7_cut 7 = .ok (.ifCond .ne 7, 3) := by decide +kernel
theorem dX7_cut_10 : decode cX7_cut 10 = .ok (.iconst 1, 1) := by decide +kernel
theorem dX7_cut_11 : decode cX7_cut 11 = .ok (.goto 16, 3) := by decide +kernel
theorem dX7_cut_14 : decode cX7_cut 14 = .ok (.aload_n 0, 1) := by decide +kernel
theorem dX7_cut_15 : decode cX7_cut 15 = .ok (.iload_n 1, 1) := by decide +kernel
theorem dX7_cut_16 : decode cX7_cut 16 = .ok (.invokevirtual 140, 3) := by decide +kernel
theorem dX7_cut_19 : decode cX7_cut 19 = .ok (.ifCond .le 7, 3) := by decide +kernel
theorem dX7_cut_22 : decode cX7_cut 22 = .ok (.iconst 2, 1) := by decide +kernel
theorem dX7_cut_23 : decode cX7_cut 23 = .ok (.goto 4, 3) := by decide +kernel
theorem dX7_cut_26 : decode cX7_cut 26 = .ok (.iconst 0, 1) := by decide +kernel
theorem dX7_cut_27 : decode cX7_cut 27 = .ok (.invokevirtual 98, 3) := by decide +kernel
theorem dX7_cut_30 : decode cX7_cut 30 = .ok (.ifCond .ne 5, 3) := by decide +kernel
theorem dX7_cut_33 : decode cX7_cut 33 = .ok (.iconst 0, 1) := by decide +kernel
theorem dX7_cut_34 : decode cX7_cut 34 = .ok (.ireturn, 1) := by decide +kernel
theorem dX7_cut_35 : decode cX7_cut 35 = .ok (.aload_n 0, 1) := by decide +kernel
theorem dX7_cut_36 : decode cX7_cut 36 = .ok (.invokevirtual 85, 3) := by decide +kernel
theorem dX7_cut_39 : decode cX7_cut 39 = .ok (.aload_n 0, 1) := by decide +kernel
theorem dX7_cut_40 : decode cX7_cut 40 = .ok (.iload_n 1, 1) := by decide +kernel
theorem dX7_cut_41 : decode cX7_cut 41 = .ok (.invokevirtual 143, 3) := by decide +kernel
theorem dX7_cut_44 : decode cX7_cut 44 = .ok (.ireturn, 1) := by decide +kernel
set_option maxRecDepth 20000 in
theorem ggX7_bear_X7_isRibbon : GoodIn wsX7_bear wsX7_isRibbon := goodIn_r _ [4, 5, 6, 3, 7] (by decide +kernel) (by decide +kernel)
set_option maxRecDepth 20000 in
theorem gX7_bear_X7_isRibbon : GoodIn wsX7_bear (va_wsS RX7 131 yX7_isRibbon wsX7_isRibbon) := goodIn_app (goodIn_of _ (by decide +kernel)) ggX7_bear_X7_isRibbon
set_option maxRecDepth 20000 in
theorem ggX7_bear_X7_in : GoodIn wsX7_bear wsX7_in := goodIn_r _ [7] (by decide +kernel) (by decide +kernel)
set_option maxRecDepth 20000 in
theorem gX7_bear_X7_in : GoodIn wsX7_bear (va_wsS RX7 23 yX7_in wsX7_in) := goodIn_app (goodIn_of _ (by decide +kernel)) ggX7_bear_X7_in
set_option maxRecDepth 20000 in
theorem ggX7_bear_X7_holds : GoodIn wsX7_bear wsX7_holds := goodIn_r _ [11, 12, 27, 28, 29, 30, 31, 32, 33, 34, 35, 36, 37, 38] (by decide +kernel) (by decide +kernel)
set_option maxRecDepth 20000 in
theorem gX7_bear_X7_holds : GoodIn wsX7_bear (wsV RX7 98 RX7 yX7_holds wsX7_holds) := goodIn_app (goodIn_of _ (by decide +kernel)) ggX7_bear_X7_holds
set_option maxRecDepth 20000 in
theorem ggX7_bear_X7_changed : GoodIn wsX7_bear wsX7_changed := goodIn_r _ [16, 17, 18, 19, 20, 3, 21, 22, 23, 24, 25, 26, 27, 28, 29, 30, 31, 32, 33, 34, 35, 36, 37, 38] (by decide +kernel) (by decide +kernel)
set_option maxRecDepth 20000 in
theorem gX7_bear_X7_changed : GoodIn wsX7_bear (wsV RX7 122 RX7 yX7_changed wsX7_changed) := goodIn_app (goodIn_of _ (by decide +kernel)) ggX7_bear_X7_changed
theorem dX7_bear_0 : decode cX7_bear 0 = .ok (.aload_n 0, 1) := by decide +kernel
theorem dX7_bear_1 : decode cX7_bear 1 = .ok (.iload_n 1, 1) := by decide +kernel
theorem dX7_bear_2 : decode cX7_bear 2 = .ok (.invokestatic 131, 3) := by decide +kernel
theorem dX7_bear_5 : decode cX7_bear 5 = .ok (.ifCond .ne 7, 3) := by decide +kernel
theorem dX7_bear_8 : decode cX7_bear 8 = .ok (.iconst 1, 1) := by decide +kernel
theorem dX7_bear_9 : decode cX7_bear 9 = .ok (.goto 19, 3) := by decide +kernel
theorem dX7_bear_12 : decode cX7_bear 12 = .ok (.iload_n 2, 1) := by decide +kernel
theorem dX7_bear_13 : decode cX7_bear 13 = .ok (.iconst 0, 1) := by decide +kernel
theorem dX7_bear_14 : decode cX7_bear 14 = .ok (.sipush 500, 3) := by decide +kernel
theorem dX7_bear_17 : decode cX7_bear 17 = .ok (.invokestatic 23, 3) := by decide +kernel
theorem dX7_bear_20 : decode cX7_bear 20 = .ok (.ifCond .ne 7, 3) := by decide +kernel
theorem dX7_bear_23 : decode cX7_bear 23 = .ok (.iconst 2, 1) := by decide +kernel
theorem dX7_bear_24 : decode cX7_bear 24 = .ok (.goto 4, 3) := by decide +kernel
theorem dX7_bear_27 : decode cX7_bear 27 = .ok (.iconst 0, 1) := by decide +kernel
theorem dX7_bear_28 : decode cX7_bear 28 = .ok (.invokevirtual 98, 3) := by decide +kernel
theorem dX7_bear_31 : decode cX7_bear 31 = .ok (.ifCond .eq 19, 3) := by decide +kernel
theorem dX7_bear_34 : decode cX7_bear 34 = .ok (.aload_n 0, 1) := by decide +kernel
theorem dX7_bear_35 : decode cX7_bear 35 = .ok (.bipush 49, 2) := by decide +kernel
theorem dX7_bear_37 : decode cX7_bear 37 = .ok (.iconst 3, 1) := by decide +kernel
theorem dX7_bear_38 : decode cX7_bear 38 = .ok (.iload_n 1, 1) := by decide +kernel
theorem dX7_bear_39 : decode cX7_bear 39 = .ok (.imul, 1) := by decide +kernel
theorem dX7_bear_40 : decode cX7_bear 40 = .ok (.iadd, 1) := by decide +kernel
theorem dX7_bear_41 : decode cX7_bear 41 = .ok (.iconst 2, 1) := by decide +kernel
theorem dX7_bear_42 : decode cX7_bear 42 = .ok (.iadd, 1) := by decide +kernel
theorem dX7_bear_43 : decode cX7_bear 43 = .ok (.iload_n 2, 1) := by decide +kernel
theorem dX7_bear_44 : decode cX7_bear 44 = .ok (.invokevirtual 122, 3) := by decide +kernel
theorem dX7_bear_47 : decode cX7_bear 47 = .ok (.goto 4, 3) := by decide +kernel
theorem dX7_bear_50 : decode cX7_bear 50 = .ok (.iconst 0, 1) := by decide +kernel
theorem dX7_bear_51 : decode cX7_bear 51 = .ok (.ireturn, 1) := by decide +kernel
set_option maxRecDepth 20000 in
theorem ggX7_tune_X7_isBalloon : GoodIn wsX7_tune wsX7_isBalloon := goodIn_r _ [5, 6, 7, 4, 8] (by decide +kernel) (by decide +kernel)
set_option maxRecDepth 20000 in
theorem gX7_tune_X7_isBalloon : GoodIn wsX7_tune (va_wsS RX7 88 yX7_isBalloon wsX7_isBalloon) := goodIn_app (goodIn_of _ (by decide +kernel)) ggX7_tune_X7_isBalloon
set_option maxRecDepth 20000 in
theorem ggX7_tune_X7_in : GoodIn wsX7_tune wsX7_in := goodIn_r _ [8] (by decide +kernel) (by decide +kernel)
set_option maxRecDepth 20000 in
theorem gX7_tune_X7_in : GoodIn wsX7_tune (va_wsS RX7 23 yX7_in wsX7_in) := goodIn_app (goodIn_of _ (by decide +kernel)) ggX7_tune_X7_in
set_option maxRecDepth 20000 in
theorem ggX7_tune_X7_holds : GoodIn wsX7_tune wsX7_holds := goodIn_r _ [12, 13, 59, 60, 61, 62, 63, 64, 65, 66, 67, 68, 69, 70] (by decide +kernel) (by decide +kernel)
set_option maxRecDepth 20000 in
theorem gX7_tune_X7_holds : GoodIn wsX7_tune (wsV RX7 98 RX7 yX7_holds wsX7_holds) := goodIn_app (goodIn_of _ (by decide +kernel)) ggX7_tune_X7_holds
set_option maxRecDepth 20000 in
theorem ggX7_tune_X7_save : GoodIn wsX7_tune wsX7_save := goodIn_r _ [17, 18, 19, 20, 21, 4, 22, 1, 59, 60, 61, 62, 63, 64, 65, 66, 67, 68, 69, 70] (by decide +kernel) (by decide +kernel)
set_option maxRecDepth 20000 in
theorem gX7_tune_X7_save : GoodIn wsX7_tune (wsV RX7 85 RX7 yX7_save wsX7_save) := goodIn_app (goodIn_of _ (by decide +kernel)) ggX7_tune_X7_save
set_option maxRecDepth 20000 in
theorem ggX7_tune_X7_tells : GoodIn wsX7_tune wsX7_tells := goodIn_r _ [26, 1, 27, 28, 29, 4, 30, 31, 32, 33, 34, 35, 36, 37, 38, 39, 40, 41, 42, 43, 44, 45, 46, 47, 48, 49, 50, 51, 52, 53, 54, 55, 56, 57, 58, 59, 60, 61, 62, 63, 64, 65, 66, 67, 68, 69, 70] (by decide +kernel) (by decide +kernel)
set_option maxRecDepth 20000 in
theorem gX7_tune_X7_tells : GoodIn wsX7_tune (wsV RX7 75 RX7 yX7_tells wsX7_tells) := goodIn_app (goodIn_of _ (by decide +kernel)) ggX7_tune_X7_tells
theorem dX7_tune_0 : decode cX7_tune 0 = .ok (.aload_n 0, 1) := by decide +kernel
theorem dX7_tune_1 : decode cX7_tune 1 = .ok (.iload_n 1, 1) := by decide +kernel
theorem dX7_tune_2 : decode cX7_tune 2 = .ok (.invokestatic 88, 3) := by decide +kernel
theorem dX7_tune_5 : decode cX7_tune 5 = .ok (.ifCond .ne 7, 3) := by decide +kernel
theorem dX7_tune_8 : decode cX7_tune 8 = .ok (.iconst 1, 1) := by decide +kernel
theorem dX7_tune_9 : decode cX7_tune 9 = .ok (.goto 19, 3) := by decide +kernel
theorem dX7_tune_12 : decode cX7_tune 12 = .ok (.iload_n 2, 1) := by decide +kernel
theorem dX7_tune_13 : decode cX7_tune 13 = .ok (.bipush (-20), 2) := by decide +kernel
theorem dX7_tune_15 : decode cX7_tune 15 = .ok (.bipush 20, 2) := by decide +kernel
theorem dX7_tune_17 : decode cX7_tune 17 = .ok (.invokestatic 23, 3) := by decide +kernel
theorem dX7_tune_20 : decode cX7_tune 20 = .ok (.ifCond .ne 7, 3) := by decide +kernel
theorem dX7_tune_23 : decode cX7_tune 23 = .ok (.iconst 2, 1) := by decide +kernel
theorem dX7_tune_24 : decode cX7_tune 24 = .ok (.goto 4, 3) := by decide +kernel
theorem dX7_tune_27 : decode cX7_tune 27 = .ok (.iconst 0, 1) := by decide +kernel
theorem dX7_tune_28 : decode cX7_tune 28 = .ok (.invokevirtual 98, 3) := by decide +kernel
theorem dX7_tune_31 : decode cX7_tune 31 = .ok (.ifCond .ne 5, 3) := by decide +kernel
theorem dX7_tune_34 : decode cX7_tune 34 = .ok (.iconst 0, 1) := by decide +kernel
theorem dX7_tune_35 : decode cX7_tune 35 = .ok (.ireturn, 1) := by decide +kernel
theorem dX7_tune_36 : decode cX7_tune 36 = .ok (.aload_n 0, 1) := by decide +kernel
theorem dX7_tune_37 : decode cX7_tune 37 = .ok (.invokevirtual 85, 3) := by decide +kernel
theorem dX7_tune_40 : decode cX7_tune 40 = .ok (.aload_n 0, 1) := by decide +kernel
theorem dX7_tune_41 : decode cX7_tune 41 = .ok (.iload_n 1, 1) := by decide +kernel
theorem dX7_tune_42 : decode cX7_tune 42 = .ok (.invokevirtual 75, 3) := by decide +kernel
theorem dX7_tune_45 : decode cX7_tune 45 = .ok (.istore_n 3, 1) := by decide +kernel
theorem dX7_tune_46 : decode cX7_tune 46 = .ok (.aload_n 0, 1) := by decide +kernel
theorem dX7_tune_47 : decode cX7_tune 47 = .ok (.getfield 7, 3) := by decide +kernel
theorem dX7_tune_50 : decode cX7_tune 50 = .ok (.bipush 9, 2) := by decide +kernel
theorem dX7_tune_52 : decode cX7_tune 52 = .ok (.iconst 5, 1) := by decide +kernel
theorem dX7_tune_53 : decode cX7_tune 53 = .ok (.iload_n 1, 1) := by decide +kernel
theorem dX7_tune_54 : decode cX7_tune 54 = .ok (.imul, 1) := by decide +kernel
theorem dX7_tune_55 : decode cX7_tune 55 = .ok (.iadd, 1) := by decide +kernel
theorem dX7_tune_56 : decode cX7_tune 56 = .ok (.iconst 3, 1) := by decide +kernel
theorem dX7_tune_57 : decode cX7_tune 57 = .ok (.iadd, 1) := by decide +kernel
theorem dX7_tune_58 : decode cX7_tune 58 = .ok (.iload_n 2, 1) := by decide +kernel
theorem dX7_tune_59 : decode cX7_tune 59 = .ok (.iastore, 1) := by decide +kernel
theorem dX7_tune_60 : decode cX7_tune 60 = .ok (.aload_n 0, 1) := by decide +kernel
theorem dX7_tune_61 : decode cX7_tune 61 = .ok (.getfield 7, 3) := by decide +kernel
theorem dX7_tune_64 : decode cX7_tune 64 = .ok (.bipush 9, 2) := by decide +kernel
theorem dX7_tune_66 : decode cX7_tune 66 = .ok (.iconst 5, 1) := by decide +kernel
theorem dX7_tune_67 : decode cX7_tune 67 = .ok (.iload_n 1, 1) := by decide +kernel
theorem dX7_tune_68 : decode cX7_tune 68 = .ok (.imul, 1) := by decide +kernel
theorem dX7_tune_69 : decode cX7_tune 69 = .ok (.iadd, 1) := by decide +kernel
theorem dX7_tune_70 : decode cX7_tune 70 = .ok (.iconst 4, 1) := by decide +kernel
theorem dX7_tune_71 : decode cX7_tune 71 = .ok (.iadd, 1) := by decide +kernel
theorem dX7_tune_72 : decode cX7_tune 72 = .ok (.aload_n 0, 1) := by decide +kernel
theorem dX7_tune_73 : decode cX7_tune 73 = .ok (.getfield 7, 3) := by decide +kernel
theorem dX7_tune_76 : decode cX7_tune 76 = .ok (.iconst 0, 1) := by decide +kernel
theorem dX7_tune_77 : decode cX7_tune 77 = .ok (.iaload, 1) := by decide +kernel
theorem dX7_tune_78 : decode cX7_tune 78 = .ok (.iastore, 1) := by decide +kernel
theorem dX7_tune_79 : decode cX7_tune 79 = .ok (.iload_n 3, 1) := by decide +kernel
theorem dX7_tune_80 : decode cX7_tune 80 = .ok (.ireturn, 1) := by decide +kernel
set_option maxRecDepth 20000 in
theorem ggX7_note_X7_isBalloon : GoodIn wsX7_note wsX7_isBalloon := goodIn_r _ [4, 5, 6, 3, 7] (by decide +kernel) (by decide +kernel)
set_option maxRecDepth 20000 in
theorem gX7_note_X7_isBalloon : GoodIn wsX7_note (va_wsS RX7 88 yX7_isBalloon wsX7_isBalloon) := goodIn_app (goodIn_of _ (by decide +kernel)) ggX7_note_X7_isBalloon
set_option maxRecDepth 20000 in
theorem ggX7_note_X7_holds : GoodIn wsX7_note wsX7_holds := goodIn_r _ [11, 12, 63, 64, 65, 66, 67, 68, 69, 70, 71, 72, 73, 74] (by decide +kernel) (by decide +kernel)
set_option maxRecDepth 20000 in
theorem gX7_note_X7_holds : GoodIn wsX7_note (wsV RX7 98 RX7 yX7_holds wsX7_holds) := goodIn_app (goodIn_of _ (by decide +kernel)) ggX7_note_X7_holds
set_option maxRecDepth 20000 in
theorem ggX7_note_X7_save : GoodIn wsX7_note wsX7_save := goodIn_r _ [16, 17, 18, 19, 20, 3, 21, 22, 63, 64, 65, 66, 67, 68, 69, 70, 71, 72, 73, 74] (by decide +kernel) (by decide +kernel)
set_option maxRecDepth 20000 in
theorem gX7_note_X7_save : GoodIn wsX7_note (wsV RX7 85 RX7 yX7_save wsX7_save) := goodIn_app (goodIn_of _ (by decide +kernel)) ggX7_note_X7_save
set_option maxRecDepth 20000 in
theorem ggX7_note_X7_notes : GoodIn wsX7_note wsX7_notes := goodIn_r _ [26, 22, 27, 28, 29, 3, 30, 31, 32, 33, 34, 35, 36, 37, 38, 39, 40, 41, 42, 43, 44, 45, 46, 47, 48, 49, 50, 51, 52, 53, 54, 55, 56, 57, 58, 59, 60, 61, 62, 63, 64, 65, 66, 67, 68, 69, 70, 71, 72, 73, 74] (by decide +kernel) (by decide +kernel)
set_option maxRecDepth 20000 in
theorem gX7_note_X7_notes : GoodIn wsX7_note (wsV RX7 146 RX7 yX7_notes wsX7_notes) := goodIn_app (goodIn_of _ (by decide +kernel)) ggX7_note_X7_notes
theorem dX7_note_0 : decode cX7_note 0 = .ok (.aload_n 0, 1) := by decide +kernel
theorem dX7_note_1 : decode cX7_note 1 = .ok (.iload_n 1, 1) := by decide +kernel
theorem dX7_note_2 : decode cX7_note 2 = .ok (.invokestatic 88, 3) := by decide +kernel
theorem dX7_note_5 : decode cX7_note 5 = .ok (.ifCond .eq 7, 3) := by decide +kernel
theorem dX7_note_8 : decode cX7_note 8 = .ok (.iconst 0, 1) := by decide +kernel
theorem dX7_note_9 : decode cX7_note 9 = .ok (.goto 4, 3) := by decide +kernel
theorem dX7_note_12 : decode cX7_note 12 = .ok (.iconst 1, 1) := by decide +kernel
theorem dX7_note_13 : decode cX7_note 13 = .ok (.invokevirtual 98, 3) := by decide +kernel
theorem dX7_note_16 : decode cX7_note 16 = .ok (.ifCond .ne 5, 3) := by decide +kernel
theorem dX7_note_19 : decode cX7_note 19 = .ok (.iconst 0, 1) := by decide +kernel
theorem dX7_note_20 : decode cX7_note 20 = .ok (.ireturn, 1) := by decide +kernel
theorem dX7_note_21 : decode cX7_note 21 = .ok (.aload_n 0, 1) := by decide +kernel
theorem dX7_note_22 : decode cX7_note 22 = .ok (.invokevirtual 85, 3) := by decide +kernel
theorem dX7_note_25 : decode cX7_note 25 = .ok (.aload_n 0, 1) := by decide +kernel
theorem dX7_note_26 : decode cX7_note 26 = .ok (.iload_n 1, 1) := by decide +kernel
theorem dX7_note_27 : decode cX7_note 27 = .ok (.invokevirtual 146, 3) := by decide +kernel
theorem dX7_note_30 : decode cX7_note 30 = .ok (.ireturn, 1) := by decide +kernel
set_option maxRecDepth 20000 in
theorem ggX7_pass_X7_isAmount : GoodIn wsX7_pass wsX7_isAmount := goodIn_r _ [4, 5, 6, 3, 7] (by decide +kernel) (by decide +kernel)
set_option maxRecDepth 20000 in
theorem gX7_pass_X7_isAmount : GoodIn wsX7_pass (va_wsS RX7 92 yX7_isAmount wsX7_isAmount) := goodIn_app (goodIn_of _ (by decide +kernel)) ggX7_pass_X7_isAmount
set_option maxRecDepth 20000 in
theorem ggX7_pass_X7_holds : GoodIn wsX7_pass wsX7_holds := goodIn_r _ [11, 12, 75, 76, 77, 78, 79, 80, 81, 82, 83, 84, 85, 86] (by decide +kernel) (by decide +kernel)
set_option maxRecDepth 20000 in
theorem gX7_pass_X7_holds : GoodIn wsX7_pass (wsV RX7 98 RX7 yX7_holds wsX7_holds) := goodIn_app (goodIn_of _ (by decide +kernel)) ggX7_pass_X7_holds
set_option maxRecDepth 20000 in
theorem ggX7_pass_X7_save : GoodIn wsX7_pass wsX7_save := goodIn_r _ [16, 17, 18, 19, 20, 3, 21, 22, 75, 76, 77, 78, 79, 80, 81, 82, 83, 84, 85, 86] (by decide +kernel) (by decide +kernel)
set_option maxRecDepth 20000 in
theorem gX7_pass_X7_save : GoodIn wsX7_pass (wsV RX7 85 RX7 yX7_save wsX7_save) := goodIn_app (goodIn_of _ (by decide +kernel)) ggX7_pass_X7_save
set_option maxRecDepth 20000 in
theorem ggX7_pass_X7_passes : GoodIn wsX7_pass wsX7_passes := goodIn_r _ [26, 27, 28, 29, 3, 30, 22, 31, 32, 33, 34, 35, 36, 37, 38, 39, 40, 41, 42, 43, 44, 45, 46, 47, 48, 49, 50, 51, 52, 53, 54, 55, 56, 57, 58, 59, 60, 61, 62, 63, 64, 65, 66, 67, 68, 69, 70, 71, 72, 73, 74, 75, 76, 77, 78, 79, 80, 81, 82, 83, 84, 85, 86] (by decide +kernel) (by decide +kernel)
set_option maxRecDepth 20000 in
theorem gX7_pass_X7_passes : GoodIn wsX7_pass (wsV RX7 149 RX7 yX7_passes wsX7_passes) := goodIn_app (goodIn_of _ (by decide +kernel)) ggX7_pass_X7_passes
theorem dX7_pass_0 : decode cX7_pass 0 = .ok (.aload_n 0, 1) := by decide +kernel
theorem dX7_pass_1 : decode cX7_pass 1 = .ok (.iload_n 1, 1) := by decide +kernel
theorem dX7_pass_2 : decode cX7_pass 2 = .ok (.invokestatic 92, 3) := by decide +kernel
theorem dX7_pass_5 : decode cX7_pass 5 = .ok (.ifCond .eq 7, 3) := by decide +kernel
theorem dX7_pass_8 : decode cX7_pass 8 = .ok (.iconst 0, 1) := by decide +kernel
theorem dX7_pass_9 : decode cX7_pass 9 = .ok (.goto 4, 3) := by decide +kernel
theorem dX7_pass_12 : decode cX7_pass 12 = .ok (.iconst 1, 1) := by decide +kernel
theorem dX7_pass_13 : decode cX7_pass 13 = .ok (.invokevirtual 98, 3) := by decide +kernel
theorem dX7_pass_16 : decode cX7_pass 16 = .ok (.ifCond .ne 5, 3) := by decide +kernel
theorem dX7_pass_19 : decode cX7_pass 19 = .ok (.iconst 0, 1) := by decide +kernel
theorem dX7_pass_20 : decode cX7_pass 20 = .ok (.ireturn, 1) := by decide +kernel
theorem dX7_pass_21 : decode cX7_pass 21 = .ok (.aload_n 0, 1) := by decide +kernel
theorem dX7_pass_22 : decode cX7_pass 22 = .ok (.invokevirtual 85, 3) := by decide +kernel
theorem dX7_pass_25 : decode cX7_pass 25 = .ok (.aload_n 0, 1) := by decide +kernel
theorem dX7_pass_26 : decode cX7_pass 26 = .ok (.iload_n 1, 1) := by decide +kernel
theorem dX7_pass_27 : decode cX7_pass 27 = .ok (.invokevirtual 149, 3) := by decide +kernel
theorem dX7_pass_30 : decode cX7_pass 30 = .ok (.ireturn, 1) := by decide +kernel
set_option maxRecDepth 20000 in
theorem ggX7_append_X7_in : GoodIn wsX7_append wsX7_in := goodIn_r _ [6] (by decide +kernel) (by decide +kernel)
set_option maxRecDepth 20000 in
theorem gX7_append_X7_in : GoodIn wsX7_append (va_wsS RX7 23 yX7_in wsX7_in) := goodIn_app (goodIn_of _ (by decide +kernel)) ggX7_append_X7_in
set_option maxRecDepth 20000 in
theorem ggX7_append_X7_holds : GoodIn wsX7_append wsX7_holds := goodIn_r _ [10, 11, 12, 13, 14, 15, 16, 17, 18, 19, 20, 21, 22, 23] (by decide +kernel) (by decide +kernel)
set_option maxRecDepth 20000 in
theorem gX7_append_X7_holds : GoodIn wsX7_append (wsV RX7 98 RX7 yX7_holds wsX7_holds) := goodIn_app (goodIn_of _ (by decide +kernel)) ggX7_append_X7_holds
theorem dX7_append_0 : decode cX7_append 0 = .ok (.aload_n 0, 1) := by decide +kernel
theorem dX7_append_1 : decode cX7_append 1 = .ok (.iload_n 1, 1) := by decide +kernel
theorem dX7_append_2 : decode cX7_append 2 = .ok (.bipush 33, 2) := by decide +kernel
theorem dX7_append_4 : decode cX7_append 4 = .ok (.bipush 126, 2) := by decide +kernel
theorem dX7_append_6 : decode cX7_append 6 = .ok (.invokestatic 23, 3) := by decide +kernel
theorem dX7_append_9 : decode cX7_append 9 = .ok (.ifCond .ne 7, 3) := by decide +kernel
theorem dX7_append_12 : decode cX7_append 12 = .ok (.iconst 1, 1) := by decide +kernel
theorem dX7_append_13 : decode cX7_append 13 = .ok (.goto 17, 3) := by decide +kernel
theorem dX7_append_16 : decode cX7_append 16 = .ok (.aload_n 0, 1) := by decide +kernel
theorem dX7_append_17 : decode cX7_append 17 = .ok (.getfield 152, 3) := by decide +kernel
theorem dX7_append_20 : decode cX7_append 20 = .ok (.bipush 60, 2) := by decide +kernel
theorem dX7_append_22 : decode cX7_append 22 = .ok (.if_icmp .ne 7, 3) := by decide +kernel
theorem dX7_append_25 : decode cX7_append 25 = .ok (.iconst 2, 1) := by decide +kernel
theorem dX7_append_26 : decode cX7_append 26 = .ok (.goto 4, 3) := by decide +kernel
theorem dX7_append_29 : decode cX7_append 29 = .ok (.iconst 0, 1) := by decide +kernel
theorem dX7_append_30 : decode cX7_append 30 = .ok (.invokevirtual 98, 3) := by decide +kernel
theorem dX7_append_33 : decode cX7_append 33 = .ok (.ifCond .ne 5, 3) := by decide +kernel
theorem dX7_append_36 : decode cX7_append 36 = .ok (.iconst 0, 1) := by decide +kernel
theorem dX7_append_37 : decode cX7_append 37 = .ok (.ireturn, 1) := by decide +kernel
theorem dX7_append_38 : decode cX7_append 38 = .ok (.aload_n 0, 1) := by decide +kernel
theorem dX7_append_39 : decode cX7_append 39 = .ok (.getfield 13, 3) := by decide +kernel
theorem dX7_append_42 : decode cX7_append 42 = .ok (.aload_n 0, 1) := by decide +kernel
theorem dX7_append_43 : decode cX7_append 43 = .ok (.getfield 152, 3) := by decide +kernel
theorem dX7_append_46 : decode cX7_append 46 = .ok (.iload_n 1, 1) := by decide +kernel
theorem dX7_append_47 : decode cX7_append 47 = .ok (.iastore, 1) := by decide +kernel
theorem dX7_append_48 : decode cX7_append 48 = .ok (.aload_n 0, 1) := by decide +kernel
theorem dX7_append_49 : decode cX7_append 49 = .ok (.dup, 1) := by decide +kernel
theorem dX7_append_50 : decode cX7_append 50 = .ok (.getfield 152, 3) := by decide +kernel
theorem dX7_append_53 : decode cX7_append 53 = .ok (.iconst 1, 1) := by decide +kernel
theorem dX7_append_54 : decode cX7_append 54 = .ok (.iadd, 1) := by decide +kernel
theorem dX7_append_55 : decode cX7_append 55 = .ok (.putfield 152, 3) := by decide +kernel
theorem dX7_append_58 : decode cX7_append 58 = .ok (.aload_n 0, 1) := by decide +kernel
theorem dX7_append_59 : decode cX7_append 59 = .ok (.getfield 152, 3) := by decide +kernel
theorem dX7_append_62 : decode cX7_append 62 = .ok (.ireturn, 1) := by decide +kernel
theorem dX7_clearBuffer_0 : decode cX7_clearBuffer 0 = .ok (.aload_n 0, 1) := by decide +kernel
theorem dX7_clearBuffer_1 : decode cX7_clearBuffer 1 = .ok (.iconst 0, 1) := by decide +kernel
theorem dX7_clearBuffer_2 : decode cX7_clearBuffer 2 = .ok (.putfield 19, 3) := by decide +kernel
theorem dX7_clearBuffer_5 : decode cX7_clearBuffer 5 = .ok (.aload_n 0, 1) := by decide +kernel
theorem dX7_clearBuffer_6 : decode cX7_clearBuffer 6 = .ok (.getfield 152, 3) := by decide +kernel
theorem dX7_clearBuffer_9 : decode cX7_clearBuffer 9 = .ok (.istore_n 1, 1) := by decide +kernel
theorem dX7_clearBuffer_10 : decode cX7_clearBuffer 10 = .ok (.aload_n 0, 1) := by decide +kernel
theorem dX7_clearBuffer_11 : decode cX7_clearBuffer 11 = .ok (.iconst 0, 1) := by decide +kernel
theorem dX7_clearBuffer_12 : decode cX7_clearBuffer 12 = .ok (.putfield 152, 3) := by decide +kernel
theorem dX7_clearBuffer_15 : decode cX7_clearBuffer 15 = .ok (.iload_n 1, 1) := by decide +kernel
theorem dX7_clearBuffer_16 : decode cX7_clearBuffer 16 = .ok (.ireturn, 1) := by decide +kernel
theorem dX7_sign_0 : decode cX7_sign 0 = .ok (.aload_n 0, 1) := by decide +kernel
theorem dX7_sign_1 : decode cX7_sign 1 = .ok (.getfield 155, 3) := by decide +kernel
theorem dX7_sign_4 : decode cX7_sign 4 = .ok (.aload_n 0, 1) := by decide +kernel
theorem dX7_sign_5 : decode cX7_sign 5 = .ok (.getfield 152, 3) := by decide +kernel
theorem dX7_sign_8 : decode cX7_sign 8 = .ok (.if_icmp .ge 15, 3) := by decide +kernel
theorem dX7_sign_11 : decode cX7_sign 11 = .ok (.aload_n 0, 1) := by decide +kernel
theorem dX7_sign_12 : decode cX7_sign 12 = .ok (.getfield 13, 3) := by decide +kernel
theorem dX7_sign_15 : decode cX7_sign 15 = .ok (.aload_n 0, 1) := by decide +kernel
theorem dX7_sign_16 : decode cX7_sign 16 = .ok (.getfield 155, 3) := by decide +kernel
theorem dX7_sign_19 : decode cX7_sign 19 = .ok (.iaload, 1) := by decide +kernel
theorem dX7_sign_20 : decode cX7_sign 20 = .ok (.goto 4, 3) := by decide +kernel
theorem dX7_sign_23 : decode cX7_sign 23 = .ok (.iconst 0, 1) := by decide +kernel
theorem dX7_sign_24 : decode cX7_sign 24 = .ok (.ireturn, 1) := by decide +kernel
set_option maxRecDepth 20000 in
theorem ggX7_takes_X7_sign : GoodIn wsX7_takes wsX7_sign := goodIn_r _ [6, 1, 7, 8, 9, 10, 11, 12, 13, 14, 15, 16, 17, 18, 19, 20] (by decide +kernel) (by decide +kernel)
set_option maxRecDepth 20000 in
theorem gX7_takes_X7_sign : GoodIn wsX7_takes (wsV RX7 158 RX7 yX7_sign wsX7_sign) := goodIn_app (goodIn_of _ (by decide +kernel)) ggX7_takes_X7_sign
theorem dX7_takes_0 : decode cX7_takes 0 = .ok (.aload_n 0, 1) := by decide +kernel
theorem dX7_takes_1 : decode cX7_takes 1 = .ok (.invokevirtual 158, 3) := by decide +kernel
theorem dX7_takes_4 : decode cX7_takes 4 = .ok (.iload_n 1, 1) := by decide +kernel
theorem dX7_takes_5 : decode cX7_takes 5 = .ok (.if_icmp .ne 7, 3) := by decide +kernel
theorem dX7_takes_8 : decode cX7_takes 8 = .ok (.iconst 1, 1) := by decide +kernel
theorem dX7_takes_9 : decode cX7_takes 9 = .ok (.goto 4, 3) := by decide +kernel
theorem dX7_takes_12 : decode cX7_takes 12 = .ok (.iconst 0, 1) := by decide +kernel
theorem dX7_takes_13 : decode cX7_takes 13 = .ok (.istore_n 2, 1) := by decide +kernel
theorem dX7_takes_14 : decode cX7_takes 14 = .ok (.aload_n 0, 1) := by decide +kernel
theorem dX7_takes_15 : decode cX7_takes 15 = .ok (.dup, 1) := by decide +kernel
theorem dX7_takes_16 : decode cX7_takes 16 = .ok (.getfield 155, 3) := by decide +kernel
theorem dX7_takes_19 : decode cX7_takes 19 = .ok (.iload_n 2, 1) := by decide +kernel
theorem dX7_takes_20 : decode cX7_takes 20 = .ok (.ifCond .eq 7, 3) := by decide +kernel
theorem dX7_takes_23 : decode cX7_takes 23 = .ok (.iconst 1, 1) := by decide +kernel
theorem dX7_takes_24 : decode cX7_takes 24 = .ok (.goto 4, 3) := by decide +kernel
theorem dX7_takes_27 : decode cX7_takes 27 = .ok (.iconst 0, 1) := by decide +kernel
theorem dX7_takes_28 : decode cX7_takes 28 = .ok (.iadd, 1) := by decide +kernel
theorem dX7_takes_29 : decode cX7_takes 29 = .ok (.putfield 155, 3) := by decide +kernel
theorem dX7_takes_32 : decode cX7_takes 32 = .ok (.iload_n 2, 1) := by decide +kernel
theorem dX7_takes_33 : decode cX7_takes 33 = .ok (.ireturn, 1) := by decide +kernel
set_option maxRecDepth 20000 in
theorem ggX7_figure_X7_sign : GoodIn wsX7_figure wsX7_sign := goodIn_r _ [6, 1, 7, 8, 12, 13, 14, 15, 16, 17, 18, 19, 20, 21, 22, 23] (by decide +kernel) (by decide +kernel)
set_option maxRecDepth 20000 in
theorem gX7_figure_X7_sign : GoodIn wsX7_figure (wsV RX7 158 RX7 yX7_sign wsX7_sign) := goodIn_app (goodIn_of _ (by decide +kernel)) ggX7_figure_X7_sign
set_option maxRecDepth 20000 in
theorem ggX7_figure_X7_in : GoodIn wsX7_figure wsX7_in := goodIn_r _ [11] (by decide +kernel) (by decide +kernel)
set_option maxRecDepth 20000 in
theorem gX7_figure_X7_in : GoodIn wsX7_figure (va_wsS RX7 23 yX7_in wsX7_in) := goodIn_app (goodIn_of _ (by decide +kernel)) ggX7_figure_X7_in
theorem dX7_figure_0 : decode cX7_figure 0 = .ok (.aload_n 0, 1) := by decide +kernel
theorem dX7_figure_1 : decode cX7_figure 1 = .ok (.invokevirtual 158, 3) := by decide +kernel
theorem dX7_figure_4 : decode cX7_figure 4 = .ok (.bipush 48, 2) := by decide +kernel
theorem dX7_figure_6 : decode cX7_figure 6 = .ok (.iload_n 1, 1) := by decide +kernel
theorem dX7_figure_7 : decode cX7_figure 7 = .ok (.iadd, 1) := by decide +kernel
theorem dX7_figure_8 : decode cX7_figure 8 = .ok (.bipush 48, 2) := by decide +kernel
theorem dX7_figure_10 : decode cX7_figure 10 = .ok (.iload_n 2, 1) := by decide +kernel
theorem dX7_figure_11 : decode cX7_figure 11 = .ok (.iadd, 1) := by decide +kernel
theorem dX7_figure_12 : decode cX7_figure 12 = .ok (.invokestatic 23, 3) := by decide +kernel
theorem dX7_figure_15 : decode cX7_figure 15 = .ok (.ifCond .eq 13, 3) := by decide +kernel
theorem dX7_figure_18 : decode cX7_figure 18 = .ok (.aload_n 0, 1) := by decide +kernel
theorem dX7_figure_19 : decode cX7_figure 19 = .ok (.invokevirtual 158, 3) := by decide +kernel
theorem dX7_figure_22 : decode cX7_figure 22 = .ok (.bipush 48, 2) := by decide +kernel
theorem dX7_figure_24 : decode cX7_figure 24 = .ok (.isub, 1) := by decide +kernel
theorem dX7_figure_25 : decode cX7_figure 25 = .ok (.goto 6, 3) := by decide +kernel
theorem dX7_figure_28 : decode cX7_figure 28 = .ok (.sipush (-1000), 3) := by decide +kernel
theorem dX7_figure_31 : decode cX7_figure 31 = .ok (.istore_n 3, 1) := by decide +kernel
theorem dX7_figure_32 : decode cX7_figure 32 = .ok (.aload_n 0, 1) := by decide +kernel
theorem dX7_figure_33 : decode cX7_figure 33 = .ok (.dup, 1) := by decide +kernel
theorem dX7_figure_34 : decode cX7_figure 34 = .ok (.getfield 155, 3) := by decide +kernel
theorem dX7_figure_37 : decode cX7_figure 37 = .ok (.iload_n 3, 1) := by decide +kernel
theorem dX7_figure_38 : decode cX7_figure 38 = .ok (.sipush (-1000), 3) := by decide +kernel
theorem dX7_figure_41 : decode cX7_figure 41 = .ok (.if_icmp .ne 7, 3) := by decide +kernel
theorem dX7_figure_44 : decode cX7_figure 44 = .ok (.iconst 0, 1) := by decide +kernel
theorem dX7_figure_45 : decode cX7_figure 45 = .ok (.goto 4, 3) := by decide +kernel
theorem dX7_figure_48 : decode cX7_figure 48 = .ok (.iconst 1, 1) := by decide +kernel
theorem dX7_figure_49 : decode cX7_figure 49 = .ok (.iadd, 1) := by decide +kernel
theorem dX7_figure_50 : decode cX7_figure 50 = .ok (.putfield 155, 3) := by decide +kernel
theorem dX7_figure_53 : decode cX7_figure 53 = .ok (.iload_n 3, 1) := by decide +kernel
theorem dX7_figure_54 : decode cX7_figure 54 = .ok (.ireturn, 1) := by decide +kernel
set_option maxRecDepth 20000 in
theorem ggX7_readsAmount_X7_figure : GoodIn wsX7_readsAmount wsX7_figure := goodIn_r _ [5, 6, 7, 8, 9, 4, 10, 11, 12, 13, 14, 15, 16, 17, 18, 19, 20, 21, 22, 23, 24, 25, 26, 27] (by decide +kernel) (by decide +kernel)
set_option maxRecDepth 20000 in
theorem gX7_readsAmount_X7_figure : GoodIn wsX7_readsAmount (wsV RX7 162 RX7 yX7_figure wsX7_figure) := goodIn_app (goodIn_of _ (by decide +kernel)) ggX7_readsAmount_X7_figure
theorem dX7_readsAmount_0 : decode cX7_readsAmount 0 = .ok (.aload_n 0, 1) := by decide +kernel
theorem dX7_readsAmount_1 : decode cX7_readsAmount 1 = .ok (.iconst 1, 1) := by decide +kernel
theorem dX7_readsAmount_2 : decode cX7_readsAmount 2 = .ok (.bipush 9, 2) := by decide +kernel
theorem dX7_readsAmount_4 : decode cX7_readsAmount 4 = .ok (.invokevirtual 162, 3) := by decide +kernel
theorem dX7_readsAmount_7 : decode cX7_readsAmount 7 = .ok (.istore_n 1, 1) := by decide +kernel
theorem dX7_readsAmount_8 : decode cX7_readsAmount 8 = .ok (.iload_n 1, 1) := by decide +kernel
theorem dX7_readsAmount_9 : decode cX7_readsAmount 9 = .ok (.sipush (-1000), 3) := by decide +kernel
theorem dX7_readsAmount_12 : decode cX7_readsAmount 12 = .ok (.if_icmp .ne 9, 3) := by decide +kernel
theorem dX7_readsAmount_15 : decode cX7_readsAmount 15 = .ok (.sipush (-1000), 3) := by decide +kernel
theorem dX7_readsAmount_18 : decode cX7_readsAmount 18 = .ok (.goto 10, 3) := by decide +kernel
theorem dX7_readsAmount_21 : decode cX7_readsAmount 21 = .ok (.aload_n 0, 1) := by decide +kernel
theorem dX7_readsAmount_22 : decode cX7_readsAmount 22 = .ok (.iconst 0, 1) := by decide +kernel
theorem dX7_readsAmount_23 : decode cX7_readsAmount 23 = .ok (.bipush 9, 2) := by decide +kernel
theorem dX7_readsAmount_25 : decode cX7_readsAmount 25 = .ok (.invokevirtual 162, 3) := by decide +kernel
theorem dX7_readsAmount_28 : decode cX7_readsAmount 28 = .ok (.istore_n 2, 1) := by decide +kernel
theorem dX7_readsAmount_29 : decode cX7_readsAmount 29 = .ok (.iload_n 2, 1) := by decide +kernel
theorem dX7_readsAmount_30 : decode cX7_readsAmount 30 = .ok (.sipush (-1000), 3) := by decide +kernel
theorem dX7_readsAmount_33 : decode cX7_readsAmount 33 = .ok (.if_icmp .ne 7, 3) := by decide +kernel
theorem dX7_readsAmount_36 : decode cX7_readsAmount 36 = .ok (.iload_n 1, 1) := by decide +kernel
theorem dX7_readsAmount_37 : decode cX7_readsAmount 37 = .ok (.goto 9, 3) := by decide +kernel
theorem dX7_readsAmount_40 : decode cX7_readsAmount 40 = .ok (.bipush 10, 2) := by decide +kernel
theorem dX7_readsAmount_42 : decode cX7_readsAmount 42 = .ok (.iload_n 1, 1) := by decide +kernel
theorem dX7_readsAmount_43 : decode cX7_readsAmount 43 = .ok (.imul, 1) := by decide +kernel
theorem dX7_readsAmount_44 : decode cX7_readsAmount 44 = .ok (.iload_n 2, 1) := by decide +kernel
theorem dX7_readsAmount_45 : decode cX7_readsAmount 45 = .ok (.iadd, 1) := by decide +kernel
theorem dX7_readsAmount_46 : decode cX7_readsAmount 46 = .ok (.ireturn, 1) := by decide +kernel
set_option maxRecDepth 20000 in
theorem ggX7_readsPart_X7_sign : GoodIn wsX7_readsPart wsX7_sign := goodIn_r _ [8, 9, 10, 11, 27, 28, 29, 30, 31, 32, 33, 34, 35, 36, 37, 38] (by decide +kernel) (by decide +kernel)
set_option maxRecDepth 20000 in
theorem gX7_readsPart_X7_sign : GoodIn wsX7_readsPart (wsV RX7 158 RX7 yX7_sign wsX7_sign) := goodIn_app (goodIn_of _ (by decide +kernel)) ggX7_readsPart_X7_sign
set_option maxRecDepth 20000 in
theorem ggX7_readsPart_X7_takes : GoodIn wsX7_readsPart wsX7_takes := goodIn_r _ [15, 9, 4, 5, 6, 7, 8, 10, 11, 27, 28, 29, 30, 31, 32, 33, 34, 35, 36, 37, 38] (by decide +kernel) (by decide +kernel)
set_option maxRecDepth 20000 in
theorem gX7_readsPart_X7_takes : GoodIn wsX7_readsPart (wsV RX7 168 RX7 yX7_takes wsX7_takes) := goodIn_app (goodIn_of _ (by decide +kernel)) ggX7_readsPart_X7_takes
set_option maxRecDepth 20000 in
theorem ggX7_readsPart_X7_readsAmount : GoodIn wsX7_readsPart wsX7_readsAmount := goodIn_r _ [19, 20, 21, 22, 7, 23, 9, 4, 5, 6, 8, 10, 11, 24, 25, 26, 27, 28, 29, 30, 31, 32, 33, 34, 35, 36, 37, 38] (by decide +kernel) (by decide +kernel)
set_option maxRecDepth 20000 in
theorem gX7_readsPart_X7_readsAmount : GoodIn wsX7_readsPart (wsV RX7 171 RX7 yX7_readsAmount wsX7_readsAmount) := goodIn_app (goodIn_of _ (by decide +kernel)) ggX7_readsPart_X7_readsAmount
set_option maxRecDepth 20000 in
theorem ggX7_readsPart_X7_figure : GoodIn wsX7_readsPart wsX7_figure := goodIn_r _ [23, 9, 4, 5, 6, 7, 8, 10, 11, 24, 25, 26, 27, 28, 29, 30, 31, 32, 33, 34, 35, 36, 37, 38] (by decide +kernel) (by decide +kernel)
set_option maxRecDepth 20000 in
theorem gX7_readsPart_X7_figure : GoodIn wsX7_readsPart (wsV RX7 162 RX7 yX7_figure wsX7_figure) := goodIn_app (goodIn_of _ (by decide +kernel)) ggX7_readsPart_X7_figure
theorem dX7_readsPart_0 : decode cX7_readsPart 0 = .ok (.aload_n 0, 1) := by decide +kernel
theorem dX7_readsPart_1 : decode cX7_readsPart 1 = .ok (.aload_n 0, 1) := by decide +kernel
theorem dX7_readsPart_2 : decode cX7_readsPart 2 = .ok (.invokevirtual 158, 3) := by decide +kernel
theorem dX7_readsPart_5 : decode cX7_readsPart 5 = .ok (.putfield 165, 3) := by decide +kernel
theorem dX7_readsPart_8 : decode cX7_readsPart 8 = .ok (.aload_n 0, 1) := by decide +kernel
theorem dX7_readsPart_9 : decode cX7_readsPart 9 = .ok (.bipush 104, 2) := by decide +kernel
theorem dX7_readsPart_11 : decode cX7_readsPart 11 = .ok (.invokevirtual 168, 3) := by decide +kernel
theorem dX7_readsPart_14 : decode cX7_readsPart 14 = .ok (.ifCond .eq 27, 3) := by decide +kernel
theorem dX7_readsPart_17 : decode cX7_readsPart 17 = .ok (.aload_n 0, 1) := by decide +kernel
theorem dX7_readsPart_18 : decode cX7_readsPart 18 = .ok (.aload_n 0, 1) := by decide +kernel
theorem dX7_readsPart_19 : decode cX7_readsPart 19 = .ok (.invokevirtual 171, 3) := by decide +kernel
theorem dX7_readsPart_22 : decode cX7_readsPart 22 = .ok (.putfield 174, 3) := by decide +kernel
theorem dX7_readsPart_25 : decode cX7_readsPart 25 = .ok (.aload_n 0, 1) := by decide +kernel
theorem dX7_readsPart_26 : decode cX7_readsPart 26 = .ok (.getfield 174, 3) := by decide +kernel
theorem dX7_readsPart_29 : decode cX7_readsPart 29 = .ok (.sipush (-1000), 3) := by decide +kernel
theorem dX7_readsPart_32 : decode cX7_readsPart 32 = .ok (.if_icmp .eq 7, 3) := by decide +kernel
theorem dX7_readsPart_35 : decode cX7_readsPart 35 = .ok (.iconst 1, 1) := by decide +kernel
theorem dX7_readsPart_36 : decode cX7_readsPart 36 = .ok (.goto 4, 3) := by decide +kernel
theorem dX7_readsPart_39 : decode cX7_readsPart 39 = .ok (.iconst 0, 1) := by decide +kernel
theorem dX7_readsPart_40 : decode cX7_readsPart 40 = .ok (.ireturn, 1) := by decide +kernel
theorem dX7_readsPart_41 : decode cX7_readsPart 41 = .ok (.aload_n 0, 1) := by decide +kernel
theorem dX7_readsPart_42 : decode cX7_readsPart 42 = .ok (.bipush 99, 2) := by decide +kernel
theorem dX7_readsPart_44 : decode cX7_readsPart 44 = .ok (.invokevirtual 168, 3) := by decide +kernel
theorem dX7_readsPart_47 : decode cX7_readsPart 47 = .ok (.ifCond .eq 30, 3) := by decide +kernel
theorem dX7_readsPart_50 : decode cX7_readsPart 50 = .ok (.aload_n 0, 1) := by decide +kernel
theorem dX7_readsPart_51 : decode cX7_readsPart 51 = .ok (.aload_n 0, 1) := by decide +kernel
theorem dX7_readsPart_52 : decode cX7_readsPart 52 = .ok (.iconst 0, 1) := by decide +kernel
theorem dX7_readsPart_53 : decode cX7_readsPart 53 = .ok (.bipush 6, 2) := by decide +kernel
theorem dX7_readsPart_55 : decode cX7_readsPart 55 = .ok (.invokevirtual 162, 3) := by decide +kernel
theorem dX7_readsPart_58 : decode cX7_readsPart 58 = .ok (.putfield 174, 3) := by decide +kernel
theorem dX7_readsPart_61 : decode cX7_readsPart 61 = .ok (.aload_n 0, 1) := by decide +kernel
theorem dX7_readsPart_62 : decode cX7_readsPart 62 = .ok (.getfield 174, 3) := by decide +kernel
theorem dX7_readsPart_65 : decode cX7_readsPart 65 = .ok (.sipush (-1000), 3) := by decide +kernel
theorem dX7_readsPart_68 : decode cX7_readsPart 68 = .ok (.if_icmp .eq 7, 3) := by decide +kernel
theorem dX7_readsPart_71 : decode cX7_readsPart 71 = .ok (.iconst 1, 1) := by decide +kernel
theorem dX7_readsPart_72 : decode cX7_readsPart 72 = .ok (.goto 4, 3) := by decide +kernel
theorem dX7_readsPart_75 : decode cX7_readsPart 75 = .ok (.iconst 0, 1) := by decide +kernel
theorem dX7_readsPart_76 : decode cX7_readsPart 76 = .ok (.ireturn, 1) := by decide +kernel
theorem dX7_readsPart_77 : decode cX7_readsPart 77 = .ok (.aload_n 0, 1) := by decide +kernel
theorem dX7_readsPart_78 : decode cX7_readsPart 78 = .ok (.bipush 100, 2) := by decide +kernel
theorem dX7_readsPart_80 : decode cX7_readsPart 80 = .ok (.invokevirtual 168, 3) := by decide +kernel
theorem dX7_readsPart_83 : decode cX7_readsPart 83 = .ok (.ifCond .ne 21, 3) := by decide +kernel
theorem dX7_readsPart_86 : decode cX7_readsPart 86 = .ok (.aload_n 0, 1) := by decide +kernel
theorem dX7_readsPart_87 : decode cX7_readsPart 87 = .ok (.bipush 112, 2) := by decide +kernel
theorem dX7_readsPart_89 : decode cX7_readsPart 89 = .ok (.invokevirtual 168, 3) := by decide +kernel
theorem dX7_readsPart_92 : decode cX7_readsPart 92 = .ok (.ifCond .ne 12, 3) := by decide +kernel
theorem dX7_readsPart_95 : decode cX7_readsPart 95 = .ok (.aload_n 0, 1) := by decide +kernel
theorem dX7_readsPart_96 : decode cX7_readsPart 96 = .ok (.bipush 110, 2) := by decide +kernel
theorem dX7_readsPart_98 : decode cX7_readsPart 98 = .ok (.invokevirtual 168, 3) := by decide +kernel
theorem dX7_readsPart_101 : decode cX7_readsPart 101 = .ok (.ifCond .eq 30, 3) := by decide +kernel
theorem dX7_readsPart_104 : decode cX7_readsPart 104 = .ok (.aload_n 0, 1) := by decide +kernel
theorem dX7_readsPart_105 : decode cX7_readsPart 105 = .ok (.aload_n 0, 1) := by decide +kernel
theorem dX7_readsPart_106 : decode cX7_readsPart 106 = .ok (.iconst 0, 1) := by decide +kernel
theorem dX7_readsPart_107 : decode cX7_readsPart 107 = .ok (.bipush 7, 2) := by decide +kernel
theorem dX7_readsPart_109 : decode cX7_readsPart 109 = .ok (.invokevirtual 162, 3) := by decide +kernel
theorem dX7_readsPart_112 : decode cX7_readsPart 112 = .ok (.putfield 174, 3) := by decide +kernel
theorem dX7_readsPart_115 : decode cX7_readsPart 115 = .ok (.aload_n 0, 1) := by decide +kernel
theorem dX7_readsPart_116 : decode cX7_readsPart 116 = .ok (.getfield 174, 3) := by decide +kernel
theorem dX7_readsPart_119 : decode cX7_readsPart 119 = .ok (.sipush (-1000), 3) := by decide +kernel
theorem dX7_readsPart_122 : decode cX7_readsPart 122 = .ok (.if_icmp .eq 7, 3) := by decide +kernel
theorem dX7_readsPart_125 : decode cX7_readsPart 125 = .ok (.iconst 1, 1) := by decide +kernel
theorem dX7_readsPart_126 : decode cX7_readsPart 126 = .ok (.goto 4, 3) := by decide +kernel
theorem dX7_readsPart_129 : decode cX7_readsPart 129 = .ok (.iconst 0, 1) := by decide +kernel
theorem dX7_readsPart_130 : decode cX7_readsPart 130 = .ok (.ireturn, 1) := by decide +kernel
theorem dX7_readsPart_131 : decode cX7_readsPart 131 = .ok (.aload_n 0, 1) := by decide +kernel
theorem dX7_readsPart_132 : decode cX7_readsPart 132 = .ok (.aload_n 0, 1) := by decide +kernel
theorem dX7_readsPart_133 : decode cX7_readsPart 133 = .ok (.bipush 102, 2) := by decide +kernel
theorem dX7_readsPart_135 : decode cX7_readsPart 135 = .ok (.invokevirtual 168, 3) := by decide +kernel
theorem dX7_readsPart_138 : decode cX7_readsPart 138 = .ok (.ifCond .ne 12, 3) := by decide +kernel
theorem dX7_readsPart_141 : decode cX7_readsPart 141 = .ok (.aload_n 0, 1) := by decide +kernel
theorem dX7_readsPart_142 : decode cX7_readsPart 142 = .ok (.bipush 118, 2) := by decide +kernel
theorem dX7_readsPart_144 : decode cX7_readsPart 144 = .ok (.invokevirtual 168, 3) := by decide +kernel
theorem dX7_readsPart_147 : decode cX7_readsPart 147 = .ok (.ifCond .eq 13, 3) := by decide +kernel
theorem dX7_readsPart_150 : decode cX7_readsPart 150 = .ok (.aload_n 0, 1) := by decide +kernel
theorem dX7_readsPart_151 : decode cX7_readsPart 151 = .ok (.iconst 0, 1) := by decide +kernel
theorem dX7_readsPart_152 : decode cX7_readsPart 152 = .ok (.bipush 7, 2) := by decide +kernel
theorem dX7_readsPart_154 : decode cX7_readsPart 154 = .ok (.invokevirtual 162, 3) := by decide +kernel
theorem dX7_readsPart_157 : decode cX7_readsPart 157 = .ok (.goto 6, 3) := by decide +kernel
theorem dX7_readsPart_160 : decode cX7_readsPart 160 = .ok (.sipush (-1000), 3) := by decide +kernel
theorem dX7_readsPart_163 : decode cX7_readsPart 163 = .ok (.putfield 174, 3) := by decide +kernel
theorem dX7_readsPart_166 : decode cX7_readsPart 166 = .ok (.aload_n 0, 1) := by decide +kernel
theorem dX7_readsPart_167 : decode cX7_readsPart 167 = .ok (.aload_n 0, 1) := by decide +kernel
theorem dX7_readsPart_168 : decode cX7_readsPart 168 = .ok (.getfield 174, 3) := by decide +kernel
theorem dX7_readsPart_171 : decode cX7_readsPart 171 = .ok (.sipush (-1000), 3) := by decide +kernel
theorem dX7_readsPart_174 : decode cX7_readsPart 174 = .ok (.if_icmp .ne 9, 3) := by decide +kernel
theorem dX7_readsPart_177 : decode cX7_readsPart 177 = .ok (.sipush (-1000), 3) := by decide +kernel
theorem dX7_readsPart_180 : decode cX7_readsPart 180 = .ok (.goto 7, 3) := by decide +kernel
theorem dX7_readsPart_183 : decode cX7_readsPart 183 = .ok (.aload_n 0, 1) := by decide +kernel
theorem dX7_readsPart_184 : decode cX7_readsPart 184 = .ok (.invokevirtual 171, 3) := by decide +kernel
theorem dX7_readsPart_187 : decode cX7_readsPart 187 = .ok (.putfield 177, 3) := by decide +kernel
theorem dX7_readsPart_190 : decode cX7_readsPart 190 = .ok (.aload_n 0, 1) := by decide +kernel
theorem dX7_readsPart_191 : decode cX7_readsPart 191 = .ok (.getfield 177, 3) := by decide +kernel
theorem dX7_readsPart_194 : decode cX7_readsPart 194 = .ok (.sipush (-1000), 3) := by decide +kernel
theorem dX7_readsPart_197 : decode cX7_readsPart 197 = .ok (.if_icmp .eq 7, 3) := by decide +kernel
theorem dX7_readsPart_200 : decode cX7_readsPart 200 = .ok (.iconst 1, 1) := by decide +kernel
theorem dX7_readsPart_201 : decode cX7_readsPart 201 = .ok (.goto 4, 3) := by decide +kernel
theorem dX7_readsPart_204 : decode cX7_readsPart 204 = .ok (.iconst 0, 1) := by decide +kernel
theorem dX7_readsPart_205 : decode cX7_readsPart 205 = .ok (.ireturn, 1) := by decide +kernel
set_option maxRecDepth 20000 in
theorem ggX7_isWork_X7_readsPart : GoodIn wsX7_isWork wsX7_readsPart := goodIn_r _ [7, 8, 9, 10, 11, 12, 13, 6, 14, 1, 2, 15, 16, 17, 18, 19, 20, 21, 22, 23, 24, 25, 26, 27, 28, 29, 30, 31, 32, 33, 34, 35, 36, 37, 38, 39, 40, 41, 42] (by decide +kernel) (by decide +kernel)
set_option maxRecDepth 20000 in
theorem gX7_isWork_X7_readsPart : GoodIn wsX7_isWork (wsV RX7 180 RX7 yX7_readsPart wsX7_readsPart) := goodIn_app (goodIn_of _ (by decide +kernel)) ggX7_isWork_X7_readsPart
set_option maxRecDepth 20000 in
theorem ggX7_isWork_X7_takes : GoodIn wsX7_isWork wsX7_takes := goodIn_r _ [19, 1, 11, 12, 13, 6, 14, 2, 15, 31, 32, 33, 34, 35, 36, 37, 38, 39, 40, 41, 42] (by decide +kernel) (by decide +kernel)
set_option maxRecDepth 20000 in
theorem gX7_isWork_X7_takes : GoodIn wsX7_isWork (wsV RX7 168 RX7 yX7_takes wsX7_takes) := goodIn_app (goodIn_of _ (by decide +kernel)) ggX7_isWork_X7_takes
theorem dX7_isWork_0 : decode cX7_isWork 0 = .ok (.aload_n 0, 1) := by decide +kernel
theorem dX7_isWork_1 : decode cX7_isWork 1 = .ok (.iconst 0, 1) := by decide +kernel
theorem dX7_isWork_2 : decode cX7_isWork 2 = .ok (.putfield 155, 3) := by decide +kernel
theorem dX7_isWork_5 : decode cX7_isWork 5 = .ok (.aload_n 0, 1) := by decide +kernel
theorem dX7_isWork_6 : decode cX7_isWork 6 = .ok (.invokevirtual 180, 3) := by decide +kernel
theorem dX7_isWork_9 : decode cX7_isWork 9 = .ok (.ifCond .eq 27, 3) := by decide +kernel
theorem dX7_isWork_12 : decode cX7_isWork 12 = .ok (.aload_n 0, 1) := by decide +kernel
theorem dX7_isWork_13 : decode cX7_isWork 13 = .ok (.getfield 155, 3) := by decide +kernel
theorem dX7_isWork_16 : decode cX7_isWork 16 = .ok (.aload_n 0, 1) := by decide +kernel
theorem dX7_isWork_17 : decode cX7_isWork 17 = .ok (.getfield 152, 3) := by decide +kernel
theorem dX7_isWork_20 : decode cX7_isWork 20 = .ok (.if_icmp .ne 5, 3) := by decide +kernel
theorem dX7_isWork_23 : decode cX7_isWork 23 = .ok (.iconst 1, 1) := by decide +kernel
theorem dX7_isWork_24 : decode cX7_isWork 24 = .ok (.ireturn, 1) := by decide +kernel
theorem dX7_isWork_25 : decode cX7_isWork 25 = .ok (.aload_n 0, 1) := by decide +kernel
theorem dX7_isWork_26 : decode cX7_isWork 26 = .ok (.bipush 59, 2) := by decide +kernel
theorem dX7_isWork_28 : decode cX7_isWork 28 = .ok (.invokevirtual 168, 3) := by decide +kernel
theorem dX7_isWork_31 : decode cX7_isWork 31 = .ok (.ifCond .ne (-26), 3) := by decide +kernel
theorem dX7_isWork_34 : decode cX7_isWork 34 = .ok (.iconst 0, 1) := by decide +kernel
theorem dX7_isWork_35 : decode cX7_isWork 35 = .ok (.ireturn, 1) := by decide +kernel
theorem dX7_isWork_36 : decode cX7_isWork 36 = .ok (.iconst 0, 1) := by decide +kernel
theorem dX7_isWork_37 : decode cX7_isWork 37 = .ok (.ireturn, 1) := by decide +kernel
set_option maxRecDepth 20000 in
theorem ggX7_firstError_X7_isWork : GoodIn wsX7_firstError wsX7_isWork := goodIn_r _ [7, 2, 8, 9, 10, 11, 6, 12, 13, 14, 15, 16, 17, 18, 19, 20, 21, 22, 23, 24, 25, 26, 27, 28, 29, 30, 31, 32, 33, 34, 35, 36, 37, 38, 39, 40, 41, 42, 43, 44, 45, 46, 47] (by decide +kernel) (by decide +kernel)
set_option maxRecDepth 20000 in
theorem gX7_firstError_X7_isWork : GoodIn wsX7_firstError (wsV RX7 184 RX7 yX7_isWork wsX7_isWork) := goodIn_app (goodIn_of _ (by decide +kernel)) ggX7_firstError_X7_isWork
theorem dX7_firstError_0 : decode cX7_firstError 0 = .ok (.aload_n 0, 1) := by decide +kernel
theorem dX7_firstError_1 : decode cX7_firstError 1 = .ok (.iconst 0, 1) := by decide +kernel
theorem dX7_firstError_2 : decode cX7_firstError 2 = .ok (.putfield 19, 3) := by decide +kernel
theorem dX7_firstError_5 : decode cX7_firstError 5 = .ok (.aload_n 0, 1) := by decide +kernel
theorem dX7_firstError_6 : decode cX7_firstError 6 = .ok (.invokevirtual 184, 3) := by decide +kernel
theorem dX7_firstError_9 : decode cX7_firstError 9 = .ok (.pop, 1) := by decide +kernel
theorem dX7_firstError_10 : decode cX7_firstError 10 = .ok (.aload_n 0, 1) := by decide +kernel
theorem dX7_firstError_11 : decode cX7_firstError 11 = .ok (.getfield 155, 3) := by decide +kernel
theorem dX7_firstError_14 : decode cX7_firstError 14 = .ok (.ireturn, 1) := by decide +kernel
set_option maxRecDepth 20000 in
theorem ggX7_stops_X7_noFill : GoodIn wsX7_stops wsX7_noFill := goodIn_r _ [8, 9, 10, 11, 7, 12, 13, 14, 15, 16, 17, 18, 19, 20, 21, 22, 23, 24, 25, 26, 27, 28, 29, 30, 31, 32, 33, 34, 35, 36, 37, 38, 39, 40, 41, 58, 59, 60, 61, 62, 63, 64, 65, 66, 67, 68, 69] (by decide +kernel) (by decide +kernel)
set_option maxRecDepth 20000 in
theorem gX7_stops_X7_noFill : GoodIn wsX7_stops (wsV RX7 95 RX7 yX7_noFill wsX7_noFill) := goodIn_app (goodIn_of _ (by decide +kernel)) ggX7_stops_X7_noFill
set_option maxRecDepth 20000 in
theorem ggX7_stops_X7_noVent : GoodIn wsX7_stops wsX7_noVent := goodIn_r _ [45, 9, 10, 11, 7, 12, 13, 58, 59, 60, 61, 62, 63, 64, 65, 66, 67, 68, 69] (by decide +kernel) (by decide +kernel)
set_option maxRecDepth 20000 in
theorem gX7_stops_X7_noVent : GoodIn wsX7_stops (wsV RX7 104 RX7 yX7_noVent wsX7_noVent) := goodIn_app (goodIn_of _ (by decide +kernel)) ggX7_stops_X7_noVent
set_option maxRecDepth 20000 in
theorem ggX7_stops_X7_noDrop : GoodIn wsX7_stops wsX7_noDrop := goodIn_r _ [49, 9, 10, 11, 7, 12, 13, 58, 59, 60, 61, 62, 63, 64, 65, 66, 67, 68, 69] (by decide +kernel) (by decide +kernel)
set_option maxRecDepth 20000 in
theorem gX7_stops_X7_noDrop : GoodIn wsX7_stops (wsV RX7 110 RX7 yX7_noDrop wsX7_noDrop) := goodIn_app (goodIn_of _ (by decide +kernel)) ggX7_stops_X7_noDrop
set_option maxRecDepth 20000 in
theorem ggX7_stops_X7_noPut : GoodIn wsX7_stops wsX7_noPut := goodIn_r _ [53, 9, 10, 11, 7, 12, 13, 14, 15, 16, 17, 18, 19, 20, 21, 22, 23, 24, 25, 26, 27, 28, 29, 30, 31, 32, 33, 34, 35, 36, 37, 38, 39, 40, 41, 58, 59, 60, 61, 62, 63, 64, 65, 66, 67, 68, 69] (by decide +kernel) (by decide +kernel)
set_option maxRecDepth 20000 in
theorem gX7_stops_X7_noPut : GoodIn wsX7_stops (wsV RX7 116 RX7 yX7_noPut wsX7_noPut) := goodIn_app (goodIn_of _ (by decide +kernel)) ggX7_stops_X7_noPut
set_option maxRecDepth 20000 in
theorem ggX7_stops_X7_noCut : GoodIn wsX7_stops wsX7_noCut := goodIn_r _ [57, 31, 32, 33, 7, 34, 13, 58, 59, 60, 61, 62, 63, 64, 65, 66, 67, 68, 69] (by decide +kernel) (by decide +kernel)
set_option maxRecDepth 20000 in
theorem gX7_stops_X7_noCut : GoodIn wsX7_stops (wsV RX7 140 RX7 yX7_noCut wsX7_noCut) := goodIn_app (goodIn_of _ (by decide +kernel)) ggX7_stops_X7_noCut
theorem dX7_stops_0 : decode cX7_stops 0 = .ok (.aload_n 0, 1) := by decide +kernel
theorem dX7_stops_1 : decode cX7_stops 1 = .ok (.getfield 165, 3) := by decide +kernel
theorem dX7_stops_4 : decode cX7_stops 4 = .ok (.lookupswitch 105 #[(99, 96), (100, 78), (102, 52), (112, 87), (118, 65)], 52) := by decide +kernel
theorem dX7_stops_56 : decode cX7_stops 56 = .ok (.aload_n 0, 1) := by decide +kernel
theorem dX7_stops_57 : decode cX7_stops 57 = .ok (.aload_n 0, 1) := by decide +kernel
theorem dX7_stops_58 : decode cX7_stops 58 = .ok (.getfield 174, 3) := by decide +kernel
theorem dX7_stops_61 : decode cX7_stops 61 = .ok (.aload_n 0, 1) := by decide +kernel
theorem dX7_stops_62 : decode cX7_stops 62 = .ok (.getfield 177, 3) := by decide +kernel
theorem dX7_stops_65 : decode cX7_stops 65 = .ok (.invokevirtual 95, 3) := by decide +kernel
theorem dX7_stops_68 : decode cX7_stops 68 = .ok (.ireturn, 1) := by decide +kernel
theorem dX7_stops_69 : decode cX7_stops 69 = .ok (.aload_n 0, 1) := by decide +kernel
theorem dX7_stops_70 : decode cX7_stops 70 = .ok (.aload_n 0, 1) := by decide +kernel
theorem dX7_stops_71 : decode cX7_stops 71 = .ok (.getfield 174, 3) := by decide +kernel
theorem dX7_stops_74 : decode cX7_stops 74 = .ok (.aload_n 0, 1) := by decide +kernel
theorem dX7_stops_75 : decode cX7_stops 75 = .ok (.getfield 177, 3) := by decide +kernel
theorem dX7_stops_78 : decode cX7_stops 78 = .ok (.invokevirtual 104, 3) := by decide +kernel
theorem dX7_stops_81 : decode cX7_stops 81 = .ok (.ireturn, 1) := by decide +kernel
theorem dX7_stops_82 : decode cX7_stops 82 = .ok (.aload_n 0, 1) := by decide +kernel
theorem dX7_stops_83 : decode cX7_stops 83 = .ok (.aload_n 0, 1) := by decide +kernel
theorem dX7_stops_84 : decode cX7_stops 84 = .ok (.getfield 174, 3) := by decide +kernel
theorem dX7_stops_87 : decode cX7_stops 87 = .ok (.invokevirtual 110, 3) := by decide +kernel
theorem dX7_stops_90 : decode cX7_stops 90 = .ok (.ireturn, 1) := by decide +kernel
theorem dX7_stops_91 : decode cX7_stops 91 = .ok (.aload_n 0, 1) := by decide +kernel
theorem dX7_stops_92 : decode cX7_stops 92 = .ok (.aload_n 0, 1) := by decide +kernel
theorem dX7_stops_93 : decode cX7_stops 93 = .ok (.getfield 174, 3) := by decide +kernel
theorem dX7_stops_96 : decode cX7_stops 96 = .ok (.invokevirtual 116, 3) := by decide +kernel
theorem dX7_stops_99 : decode cX7_stops 99 = .ok (.ireturn, 1) := by decide +kernel
theorem dX7_stops_100 : decode cX7_stops 100 = .ok (.aload_n 0, 1) := by decide +kernel
theorem dX7_stops_101 : decode cX7_stops 101 = .ok (.aload_n 0, 1) := by decide +kernel
theorem dX7_stops_102 : decode cX7_stops 102 = .ok (.getfield 174, 3) := by decide +kernel
theorem dX7_stops_105 : decode cX7_stops 105 = .ok (.invokevirtual 140, 3) := by decide +kernel
theorem dX7_stops_108 : decode cX7_stops 108 = .ok (.ireturn, 1) := by decide +kernel
theorem dX7_stops_109 : decode cX7_stops 109 = .ok (.iconst 0, 1) := by decide +kernel
theorem dX7_stops_110 : decode cX7_stops 110 = .ok (.ireturn, 1) := by decide +kernel
set_option maxRecDepth 20000 in
theorem ggX7_does_X7_fills : GoodIn wsX7_does wsX7_fills := goodIn_r _ [8, 9, 10, 11, 12, 7, 13, 14, 15, 16, 17, 94, 95, 96, 97, 98, 99, 100, 101, 102, 103, 104, 105] (by decide +kernel) (by decide +kernel)
set_option maxRecDepth 20000 in
theorem gX7_does_X7_fills : GoodIn wsX7_does (wsV RX7 101 RX7 yX7_fills wsX7_fills) := goodIn_app (goodIn_of _ (by decide +kernel)) ggX7_does_X7_fills
set_option maxRecDepth 20000 in
theorem ggX7_does_X7_vents : GoodIn wsX7_does wsX7_vents := goodIn_r _ [21, 9, 10, 11, 12, 7, 13, 22, 23, 24, 25, 26, 27, 28, 29, 30, 31, 32, 33, 34, 35, 36, 37, 38, 14, 15, 16, 17, 39, 40, 41, 42, 43, 44, 45, 46, 47, 48, 49, 94, 95, 96, 97, 98, 99, 100, 101, 102, 103, 104, 105] (by decide +kernel) (by decide +kernel)
set_option maxRecDepth 20000 in
theorem gX7_does_X7_vents : GoodIn wsX7_does (wsV RX7 107 RX7 yX7_vents wsX7_vents) := goodIn_app (goodIn_of _ (by decide +kernel)) ggX7_does_X7_vents
set_option maxRecDepth 20000 in
theorem ggX7_does_X7_drops : GoodIn wsX7_does wsX7_drops := goodIn_r _ [53, 9, 10, 11, 12, 7, 13, 22, 23, 24, 25, 26, 27, 28, 29, 30, 31, 32, 33, 34, 35, 36, 37, 38, 14, 15, 16, 17, 39, 40, 41, 42, 43, 44, 45, 46, 47, 48, 49, 94, 95, 96, 97, 98, 99, 100, 101, 102, 103, 104, 105] (by decide +kernel) (by decide +kernel)
set_option maxRecDepth 20000 in
theorem gX7_does_X7_drops : GoodIn wsX7_does (wsV RX7 113 RX7 yX7_drops wsX7_drops) := goodIn_app (goodIn_of _ (by decide +kernel)) ggX7_does_X7_drops
set_option maxRecDepth 20000 in
theorem ggX7_does_X7_puts : GoodIn wsX7_does wsX7_puts := goodIn_r _ [57, 10, 11, 12, 7, 13, 9, 14, 15, 16, 17, 94, 95, 96, 97, 98, 99, 100, 101, 102, 103, 104, 105] (by decide +kernel) (by decide +kernel)
set_option maxRecDepth 20000 in
theorem gX7_does_X7_puts : GoodIn wsX7_does (wsV RX7 119 RX7 yX7_puts wsX7_puts) := goodIn_app (goodIn_of _ (by decide +kernel)) ggX7_does_X7_puts
set_option maxRecDepth 20000 in
theorem ggX7_does_X7_cuts : GoodIn wsX7_does wsX7_cuts := goodIn_r _ [61, 9, 62, 63, 64, 7, 65, 26, 27, 28, 29, 30, 31, 32, 33, 34, 35, 36, 37, 38, 14, 15, 16, 17, 39, 40, 41, 42, 43, 44, 45, 46, 47, 48, 49, 94, 95, 96, 97, 98, 99, 100, 101, 102, 103, 104, 105] (by decide +kernel) (by decide +kernel)
set_option maxRecDepth 20000 in
theorem gX7_does_X7_cuts : GoodIn wsX7_does (wsV RX7 143 RX7 yX7_cuts wsX7_cuts) := goodIn_app (goodIn_of _ (by decide +kernel)) ggX7_does_X7_cuts
set_option maxRecDepth 20000 in
theorem ggX7_does_X7_notes : GoodIn wsX7_does wsX7_notes := goodIn_r _ [69, 9, 70, 71, 72, 7, 73, 22, 23, 24, 25, 26, 27, 28, 29, 30, 31, 32, 33, 34, 35, 36, 37, 38, 14, 15, 16, 17, 39, 40, 41, 42, 43, 44, 45, 46, 47, 48, 49, 94, 95, 96, 97, 98, 99, 100, 101, 102, 103, 104, 105] (by decide +kernel) (by decide +kernel)
set_option maxRecDepth 20000 in
theorem gX7_does_X7_notes : GoodIn wsX7_does (wsV RX7 146 RX7 yX7_notes wsX7_notes) := goodIn_app (goodIn_of _ (by decide +kernel)) ggX7_does_X7_notes
set_option maxRecDepth 20000 in
theorem ggX7_does_X7_passes : GoodIn wsX7_does wsX7_passes := goodIn_r _ [77, 78, 79, 80, 7, 81, 9, 14, 15, 16, 17, 47, 48, 49, 10, 11, 12, 13, 82, 83, 84, 85, 27, 28, 29, 30, 26, 31, 32, 33, 34, 35, 36, 37, 38, 39, 40, 41, 42, 43, 44, 45, 46, 86, 87, 88, 89, 90, 91, 92, 93, 94, 95, 96, 97, 98, 99, 100, 101, 102, 103, 104, 105] (by decide +kernel) (by decide +kernel)
set_option maxRecDepth 20000 in
theorem gX7_does_X7_passes : GoodIn wsX7_does (wsV RX7 149 RX7 yX7_passes wsX7_passes) := goodIn_app (goodIn_of _ (by decide +kernel)) ggX7_does_X7_passes
theorem dX7_does_0 : decode cX7_does 0 = .ok (.aload_n 0, 1) := by decide +kernel
theorem dX7_does_1 : decode cX7_does 1 = .ok (.getfield 165, 3) := by decide +kernel
theorem dX7_does_4 : decode cX7_does 4 = .ok (.tableswitch 176 99 118 #[152, 128, 176, 96, 176, 176, 176, 176, 176, 176, 176, 164, 176, 140, 176, 176, 176, 176, 176, 112], 96) := by decide +kernel
theorem dX7_does_100 : decode cX7_does 100 = .ok (.aload_n 0, 1) := by decide +kernel
theorem dX7_does_101 : decode cX7_does 101 = .ok (.aload_n 0, 1) := by decide +kernel
theorem dX7_does_102 : decode cX7_does 102 = .ok (.getfield 174, 3) := by decide +kernel
theorem dX7_does_105 : decode cX7_does 105 = .ok (.aload_n 0, 1) := by decide +kernel
theorem dX7_does_106 : decode cX7_does 106 = .ok (.getfield 177, 3) := by decide +kernel
theorem dX7_does_109 : decode cX7_does 109 = .ok (.invokevirtual 101, 3) := by decide +kernel
theorem dX7_does_112 : decode cX7_does 112 = .ok (.pop, 1) := by decide +kernel
theorem dX7_does_113 : decode cX7_does 113 = .ok (.goto 76, 3) := by decide +kernel
theorem dX7_does_116 : decode cX7_does 116 = .ok (.aload_n 0, 1) := by decide +kernel
theorem dX7_does_117 : decode cX7_does 117 = .ok (.aload_n 0, 1) := by decide +kernel
theorem dX7_does_118 : decode cX7_does 118 = .ok (.getfield 174, 3) := by decide +kernel
theorem dX7_does_121 : decode cX7_does 121 = .ok (.aload_n 0, 1) := by decide +kernel
theorem dX7_does_122 : decode cX7_does 122 = .ok (.getfield 177, 3) := by decide +kernel
theorem dX7_does_125 : decode cX7_does 125 = .ok (.invokevirtual 107, 3) := by decide +kernel
theorem dX7_does_128 : decode cX7_does 128 = .ok (.pop, 1) := by decide +kernel
theorem dX7_does_129 : decode cX7_does 129 = .ok (.goto 60, 3) := by decide +kernel
theorem dX7_does_132 : decode cX7_does 132 = .ok (.aload_n 0, 1) := by decide +kernel
theorem dX7_does_133 : decode cX7_does 133 = .ok (.aload_n 0, 1) := by decide +kernel
theorem dX7_does_134 : decode cX7_does 134 = .ok (.getfield 174, 3) := by decide +kernel
theorem dX7_does_137 : decode cX7_does 137 = .ok (.invokevirtual 113, 3) := by decide +kernel
theorem dX7_does_140 : decode cX7_does 140 = .ok (.pop, 1) := by decide +kernel
theorem dX7_does_141 : decode cX7_does 141 = .ok (.goto 48, 3) := by decide +kernel
theorem dX7_does_144 : decode cX7_does 144 = .ok (.aload_n 0, 1) := by decide +kernel
theorem dX7_does_145 : decode cX7_does 145 = .ok (.aload_n 0, 1) := by decide +kernel
theorem dX7_does_146 : decode cX7_does 146 = .ok (.getfield 174, 3) := by decide +kernel
theorem dX7_does_149 : decode cX7_does 149 = .ok (.invokevirtual 119, 3) := by decide +kernel
theorem dX7_does_152 : decode cX7_does 152 = .ok (.pop, 1) := by decide +kernel
theorem dX7_does_153 : decode cX7_does 153 = .ok (.goto 36, 3) := by decide +kernel
theorem dX7_does_156 : decode cX7_does 156 = .ok (.aload_n 0, 1) := by decide +kernel
theorem dX7_does_157 : decode cX7_does 157 = .ok (.aload_n 0, 1) := by decide +kernel
theorem dX7_does_158 : decode cX7_does 158 = .ok (.getfield 174, 3) := by decide +kernel
theorem dX7_does_161 : decode cX7_does 161 = .ok (.invokevirtual 143, 3) := by decide +kernel
theorem dX7_does_164 : decode cX7_does 164 = .ok (.pop, 1) := by decide +kernel
theorem dX7_does_165 : decode cX7_does 165 = .ok (.goto 24, 3) := by decide +kernel
theorem dX7_does_168 : decode cX7_does 168 = .ok (.aload_n 0, 1) := by decide +kernel
theorem dX7_does_169 : decode cX7_does 169 = .ok (.aload_n 0, 1) := by decide +kernel
theorem dX7_does_170 : decode cX7_does 170 = .ok (.getfield 174, 3) := by decide +kernel
theorem dX7_does_173 : decode cX7_does 173 = .ok (.invokevirtual 146, 3) := by decide +kernel
theorem dX7_does_176 : decode cX7_does 176 = .ok (.pop, 1) := by decide +kernel
theorem dX7_does_177 : decode cX7_does 177 = .ok (.goto 12, 3) := by decide +kernel
theorem dX7_does_180 : decode cX7_does 180 = .ok (.aload_n 0, 1) := by decide +kernel
theorem dX7_does_181 : decode cX7_does 181 = .ok (.aload_n 0, 1) := by decide +kernel
theorem dX7_does_182 : decode cX7_does 182 = .ok (.getfield 174, 3) := by decide +kernel
theorem dX7_does_185 : decode cX7_does 185 = .ok (.invokevirtual 149, 3) := by decide +kernel
theorem dX7_does_188 : decode cX7_does 188 = .ok (.pop, 1) := by decide +kernel
theorem dX7_does_189 : decode cX7_does 189 = .ok (.return_, 1) := by decide +kernel
set_option maxRecDepth 20000 in
theorem ggX7_work_X7_isWork : GoodIn wsX7_work wsX7_isWork := goodIn_r _ [8, 2, 3, 9, 10, 11, 7, 12, 13, 14, 15, 16, 17, 18, 19, 20, 21, 22, 23, 24, 25, 26, 27, 28, 29, 30, 31, 32, 33, 34, 35, 166, 167, 168, 169, 170, 171, 172, 173, 174, 175, 176, 177] (by decide +kernel) (by decide +kernel)
set_option maxRecDepth 20000 in
theorem gX7_work_X7_isWork : GoodIn wsX7_work (wsV RX7 184 RX7 yX7_isWork wsX7_isWork) := goodIn_app (goodIn_of _ (by decide +kernel)) ggX7_work_X7_isWork
set_option maxRecDepth 20000 in
theorem ggX7_work_X7_holds : GoodIn wsX7_work wsX7_holds := goodIn_r _ [39, 40, 166, 167, 168, 169, 170, 171, 172, 173, 174, 175, 176, 177] (by decide +kernel) (by decide +kernel)
set_option maxRecDepth 20000 in
theorem gX7_work_X7_holds : GoodIn wsX7_work (wsV RX7 98 RX7 yX7_holds wsX7_holds) := goodIn_app (goodIn_of _ (by decide +kernel)) ggX7_work_X7_holds
set_option maxRecDepth 20000 in
theorem ggX7_work_X7_save : GoodIn wsX7_work wsX7_save := goodIn_r _ [44, 45, 46, 47, 48, 7, 49, 1, 166, 167, 168, 169, 170, 171, 172, 173, 174, 175, 176, 177] (by decide +kernel) (by decide +kernel)
set_option maxRecDepth 20000 in
theorem gX7_work_X7_save : GoodIn wsX7_work (wsV RX7 85 RX7 yX7_save wsX7_save) := goodIn_app (goodIn_of _ (by decide +kernel)) ggX7_work_X7_save
set_option maxRecDepth 20000 in
theorem ggX7_work_X7_readsPart : GoodIn wsX7_work wsX7_readsPart := goodIn_r _ [12, 13, 14, 15, 16, 17, 18, 7, 19, 2, 3, 20, 21, 22, 23, 24, 25, 26, 27, 28, 29, 30, 31, 32, 33, 34, 35, 166, 167, 168, 169, 170, 171, 172, 173, 174, 175, 176, 177] (by decide +kernel) (by decide +kernel)
set_option maxRecDepth 20000 in
theorem gX7_work_X7_readsPart : GoodIn wsX7_work (wsV RX7 180 RX7 yX7_readsPart wsX7_readsPart) := goodIn_app (goodIn_of _ (by decide +kernel)) ggX7_work_X7_readsPart
set_option maxRecDepth 20000 in
theorem ggX7_work_X7_stops : GoodIn wsX7_work wsX7_stops := goodIn_r _ [53, 13, 14, 15, 54, 55, 56, 7, 57, 58, 59, 60, 61, 1, 62, 63, 64, 65, 66, 67, 68, 69, 70, 71, 72, 73, 74, 75, 76, 77, 78, 79, 80, 81, 82, 83, 84, 85, 86, 87, 88, 89, 90, 91, 92, 93, 94, 95, 96, 97, 98, 99, 100, 101, 102, 103, 104, 105, 166, 167, 168, 169, 170, 171, 172, 173, 174, 175, 176, 177] (by decide +kernel) (by decide +kernel)
set_option maxRecDepth 20000 in
theorem gX7_work_X7_stops : GoodIn wsX7_work (wsV RX7 187 RX7 yX7_stops wsX7_stops) := goodIn_app (goodIn_of _ (by decide +kernel)) ggX7_work_X7_stops
set_option maxRecDepth 20000 in
theorem ggX7_work_X7_does : GoodIn wsX7_work wsX7_does := goodIn_r _ [109, 13, 14, 15, 110, 111, 112, 7, 113, 1, 114, 115, 116, 117, 58, 59, 60, 61, 118, 119, 120, 121, 62, 63, 64, 65, 66, 67, 68, 69, 70, 71, 72, 73, 74, 75, 76, 77, 78, 79, 80, 81, 82, 83, 84, 85, 86, 87, 88, 89, 122, 123, 124, 125, 126, 127, 128, 129, 130, 131, 132, 133, 134, 135, 136, 137, 138, 139, 140, 141, 142, 143, 144, 145, 146, 147, 148, 149, 150, 151, 152, 153, 154, 155, 156, 157, 158, 159, 160, 161, 162, 163, 164, 165, 166, 167, 168, 169, 170, 171, 172, 173, 174, 175, 176, 177] (by decide +kernel) (by decide +kernel)
set_option maxRecDepth 20000 in
theorem gX7_work_X7_does : GoodIn wsX7_work (wsV RX7 190 RX7 yX7_does wsX7_does) := goodIn_app (goodIn_of _ (by decide +kernel)) ggX7_work_X7_does
set_option maxRecDepth 20000 in
theorem ggX7_work_X7_takes : GoodIn wsX7_work wsX7_takes := goodIn_r _ [24, 2, 16, 17, 18, 7, 19, 3, 20, 166, 167, 168, 169, 170, 171, 172, 173, 174, 175, 176, 177] (by decide +kernel) (by decide +kernel)
set_option maxRecDepth 20000 in
theorem gX7_work_X7_takes : GoodIn wsX7_work (wsV RX7 168 RX7 yX7_takes wsX7_takes) := goodIn_app (goodIn_of _ (by decide +kernel)) ggX7_work_X7_takes
theorem dX7_work_0 : decode cX7_work 0 = .ok (.aload_n 0, 1) := by decide +kernel
theorem dX7_work_1 : decode cX7_work 1 = .ok (.aload_n 0, 1) := by decide +kernel
theorem dX7_work_2 : decode cX7_work 2 = .ok (.invokevirtual 184, 3) := by decide +kernel
theorem dX7_work_5 : decode cX7_work 5 = .ok (.ifCond .eq 7, 3) := by decide +kernel
theorem dX7_work_8 : decode cX7_work 8 = .ok (.iconst 0, 1) := by decide +kernel
theorem dX7_work_9 : decode cX7_work 9 = .ok (.goto 4, 3) := by decide +kernel
theorem dX7_work_12 : decode cX7_work 12 = .ok (.iconst 1, 1) := by decide +kernel
theorem dX7_work_13 : decode cX7_work 13 = .ok (.invokevirtual 98, 3) := by decide +kernel
theorem dX7_work_16 : decode cX7_work 16 = .ok (.ifCond .ne 5, 3) := by decide +kernel
theorem dX7_work_19 : decode cX7_work 19 = .ok (.iconst 0, 1) := by decide +kernel
theorem dX7_work_20 : decode cX7_work 20 = .ok (.ireturn, 1) := by decide +kernel
theorem dX7_work_21 : decode cX7_work 21 = .ok (.aload_n 0, 1) := by decide +kernel
theorem dX7_work_22 : decode cX7_work 22 = .ok (.invokevirtual 85, 3) := by decide +kernel
theorem dX7_work_25 : decode cX7_work 25 = .ok (.aload_n 0, 1) := by decide +kernel
theorem dX7_work_26 : decode cX7_work 26 = .ok (.getfield 7, 3) := by decide +kernel
theorem dX7_work_29 : decode cX7_work 29 = .ok (.bipush 6, 2) := by decide +kernel
theorem dX7_work_31 : decode cX7_work 31 = .ok (.sipush (-1000), 3) := by decide +kernel
theorem dX7_work_34 : decode cX7_work 34 = .ok (.iastore, 1) := by decide +kernel
theorem dX7_work_35 : decode cX7_work 35 = .ok (.aload_n 0, 1) := by decide +kernel
theorem dX7_work_36 : decode cX7_work 36 = .ok (.getfield 7, 3) := by decide +kernel
theorem dX7_work_39 : decode cX7_work 39 = .ok (.bipush 7, 2) := by decide +kernel
theorem dX7_work_41 : decode cX7_work 41 = .ok (.sipush (-1000), 3) := by decide +kernel
theorem dX7_work_44 : decode cX7_work 44 = .ok (.iastore, 1) := by decide +kernel
theorem dX7_work_45 : decode cX7_work 45 = .ok (.aload_n 0, 1) := by decide +kernel
theorem dX7_work_46 : decode cX7_work 46 = .ok (.iconst 0, 1) := by decide +kernel
theorem dX7_work_47 : decode cX7_work 47 = .ok (.putfield 155, 3) := by decide +kernel
theorem dX7_work_50 : decode cX7_work 50 = .ok (.iconst 0, 1) := by decide +kernel
theorem dX7_work_51 : decode cX7_work 51 = .ok (.istore_n 1, 1) := by decide +kernel
theorem dX7_work_52 : decode cX7_work 52 = .ok (.aload_n 0, 1) := by decide +kernel
theorem dX7_work_53 : decode cX7_work 53 = .ok (.getfield 7, 3) := by decide +kernel
theorem dX7_work_56 : decode cX7_work 56 = .ok (.bipush 6, 2) := by decide +kernel
theorem dX7_work_58 : decode cX7_work 58 = .ok (.iaload, 1) := by decide +kernel
theorem dX7_work_59 : decode cX7_work 59 = .ok (.sipush (-1000), 3) := by decide +kernel
theorem dX7_work_62 : decode cX7_work 62 = .ok (.if_icmp .ne 55, 3) := by decide +kernel
theorem dX7_work_65 : decode cX7_work 65 = .ok (.aload_n 0, 1) := by decide +kernel
theorem dX7_work_66 : decode cX7_work 66 = .ok (.invokevirtual 180, 3) := by decide +kernel
theorem dX7_work_69 : decode cX7_work 69 = .ok (.ifCond .eq 48, 3) := by decide +kernel
theorem dX7_work_72 : decode cX7_work 72 = .ok (.aload_n 0, 1) := by decide +kernel
theorem dX7_work_73 : decode cX7_work 73 = .ok (.invokevirtual 187, 3) := by decide +kernel
theorem dX7_work_76 : decode cX7_work 76 = .ok (.istore_n 2, 1) := by decide +kernel
theorem dX7_work_77 : decode cX7_work 77 = .ok (.iload_n 2, 1) := by decide +kernel
theorem dX7_work_78 : decode cX7_work 78 = .ok (.ifCond .le 22, 3) := by decide +kernel
theorem dX7_work_81 : decode cX7_work 81 = .ok (.aload_n 0, 1) := by decide +kernel
theorem dX7_work_82 : decode cX7_work 82 = .ok (.getfield 7, 3) := by decide +kernel
theorem dX7_work_85 : decode cX7_work 85 = .ok (.bipush 6, 2) := by decide +kernel
theorem dX7_work_87 : decode cX7_work 87 = .ok (.iload_n 1, 1) := by decide +kernel
theorem dX7_work_88 : decode cX7_work 88 = .ok (.iastore, 1) := by decide +kernel
theorem dX7_work_89 : decode cX7_work 89 = .ok (.aload_n 0, 1) := by decide +kernel
theorem dX7_work_90 : decode cX7_work 90 = .ok (.getfield 7, 3) := by decide +kernel
theorem dX7_work_93 : decode cX7_work 93 = .ok (.bipush 7, 2) := by decide +kernel
theorem dX7_work_95 : decode cX7_work 95 = .ok (.iload_n 2, 1) := by decide +kernel
theorem dX7_work_96 : decode cX7_work 96 = .ok (.iastore, 1) := by decide +kernel
theorem dX7_work_97 : decode cX7_work 97 = .ok (.goto 17, 3) := by decide +kernel
theorem dX7_work_100 : decode cX7_work 100 = .ok (.aload_n 0, 1) := by decide +kernel
theorem dX7_work_101 : decode cX7_work 101 = .ok (.invokevirtual 190, 3) := by decide +kernel
theorem dX7_work_104 : decode cX7_work 104 = .ok (.iinc 1 1, 3) := by decide +kernel
theorem dX7_work_107 : decode cX7_work 107 = .ok (.aload_n 0, 1) := by decide +kernel
theorem dX7_work_108 : decode cX7_work 108 = .ok (.bipush 59, 2) := by decide +kernel
theorem dX7_work_110 : decode cX7_work 110 = .ok (.invokevirtual 168, 3) := by decide +kernel
theorem dX7_work_113 : decode cX7_work 113 = .ok (.pop, 1) := by decide +kernel
theorem dX7_work_114 : decode cX7_work 114 = .ok (.goto (-62), 3) := by decide +kernel
theorem dX7_work_117 : decode cX7_work 117 = .ok (.aload_n 0, 1) := by decide +kernel
theorem dX7_work_118 : decode cX7_work 118 = .ok (.iconst 0, 1) := by decide +kernel
theorem dX7_work_119 : decode cX7_work 119 = .ok (.putfield 152, 3) := by decide +kernel
theorem dX7_work_122 : decode cX7_work 122 = .ok (.iload_n 1, 1) := by decide +kernel
theorem dX7_work_123 : decode cX7_work 123 = .ok (.ireturn, 1) := by decide +kernel
set_option maxRecDepth 20000 in
theorem ggX7_keep_X7_copies : GoodIn wsX7_keep wsX7_copies := goodIn_r _ [8, 3, 9, 10, 11, 12, 13, 14, 15, 16, 17, 18, 19, 20] (by decide +kernel) (by decide +kernel)
set_option maxRecDepth 20000 in
theorem gX7_keep_X7_copies : GoodIn wsX7_keep (wsV RX7 81 RX7 yX7_copies wsX7_copies) := goodIn_app (goodIn_of _ (by decide +kernel)) ggX7_keep_X7_copies
theorem dX7_keep_0 : decode cX7_keep 0 = .ok (.aload_n 0, 1) := by decide +kernel
theorem dX7_keep_1 : decode cX7_keep 1 = .ok (.iconst 0, 1) := by decide +kernel
theorem dX7_keep_2 : decode cX7_keep 2 = .ok (.putfield 19, 3) := by decide +kernel
theorem dX7_keep_5 : decode cX7_keep 5 = .ok (.aload_n 0, 1) := by decide +kernel
theorem dX7_keep_6 : decode cX7_keep 6 = .ok (.iconst 0, 1) := by decide +kernel
theorem dX7_keep_7 : decode cX7_keep 7 = .ok (.bipush 7, 2) := by decide +kernel
theorem dX7_keep_9 : decode cX7_keep 9 = .ok (.invokevirtual 81, 3) := by decide +kernel
theorem dX7_keep_12 : decode cX7_keep 12 = .ok (.aload_n 0, 1) := by decide +kernel
theorem dX7_keep_13 : decode cX7_keep 13 = .ok (.iconst 1, 1) := by decide +kernel
theorem dX7_keep_14 : decode cX7_keep 14 = .ok (.putfield 193, 3) := by decide +kernel
theorem dX7_keep_17 : decode cX7_keep 17 = .ok (.aload_n 0, 1) := by decide +kernel
theorem dX7_keep_18 : decode cX7_keep 18 = .ok (.getfield 7, 3) := by decide +kernel
theorem dX7_keep_21 : decode cX7_keep 21 = .ok (.iconst 0, 1) := by decide +kernel
theorem dX7_keep_22 : decode cX7_keep 22 = .ok (.iaload, 1) := by decide +kernel
theorem dX7_keep_23 : decode cX7_keep 23 = .ok (.ireturn, 1) := by decide +kernel
set_option maxRecDepth 20000 in
theorem ggX7_goBack_X7_holds : GoodIn wsX7_goBack wsX7_holds := goodIn_r _ [7, 8, 18, 19, 20, 21, 22, 23, 24, 25, 26, 27, 28, 29] (by decide +kernel) (by decide +kernel)
set_option maxRecDepth 20000 in
theorem gX7_goBack_X7_holds : GoodIn wsX7_goBack (wsV RX7 98 RX7 yX7_holds wsX7_holds) := goodIn_app (goodIn_of _ (by decide +kernel)) ggX7_goBack_X7_holds
set_option maxRecDepth 20000 in
theorem ggX7_goBack_X7_save : GoodIn wsX7_goBack wsX7_save := goodIn_r _ [12, 13, 14, 15, 16, 6, 17, 2, 18, 19, 20, 21, 22, 23, 24, 25, 26, 27, 28, 29] (by decide +kernel) (by decide +kernel)
set_option maxRecDepth 20000 in
theorem gX7_goBack_X7_save : GoodIn wsX7_goBack (wsV RX7 85 RX7 yX7_save wsX7_save) := goodIn_app (goodIn_of _ (by decide +kernel)) ggX7_goBack_X7_save
set_option maxRecDepth 20000 in
theorem ggX7_goBack_X7_copies : GoodIn wsX7_goBack wsX7_copies := goodIn_r _ [17, 2, 18, 19, 20, 21, 22, 23, 24, 25, 26, 27, 28, 29] (by decide +kernel) (by decide +kernel)
set_option maxRecDepth 20000 in
theorem gX7_goBack_X7_copies : GoodIn wsX7_goBack (wsV RX7 81 RX7 yX7_copies wsX7_copies) := goodIn_app (goodIn_of _ (by decide +kernel)) ggX7_goBack_X7_copies
theorem dX7_goBack_0 : decode cX7_goBack 0 = .ok (.aload_n 0, 1) := by decide +kernel
theorem dX7_goBack_1 : decode cX7_goBack 1 = .ok (.aload_n 0, 1) := by decide +kernel
theorem dX7_goBack_2 : decode cX7_goBack 2 = .ok (.getfield 193, 3) := by decide +kernel
theorem dX7_goBack_5 : decode cX7_goBack 5 = .ok (.ifCond .eq 7, 3) := by decide +kernel
theorem dX7_goBack_8 : decode cX7_goBack 8 = .ok (.iconst 0, 1) := by decide +kernel
theorem dX7_goBack_9 : decode cX7_goBack 9 = .ok (.goto 4, 3) := by decide +kernel
theorem dX7_goBack_12 : decode cX7_goBack 12 = .ok (.iconst 1, 1) := by decide +kernel
theorem dX7_goBack_13 : decode cX7_goBack 13 = .ok (.invokevirtual 98, 3) := by decide +kernel
theorem dX7_goBack_16 : decode cX7_goBack 16 = .ok (.ifCond .ne 5, 3) := by decide +kernel
theorem dX7_goBack_19 : decode cX7_goBack 19 = .ok (.iconst 0, 1) := by decide +kernel
theorem dX7_goBack_20 : decode cX7_goBack 20 = .ok (.ireturn, 1) := by decide +kernel
theorem dX7_goBack_21 : decode cX7_goBack 21 = .ok (.aload_n 0, 1) := by decide +kernel
theorem dX7_goBack_22 : decode cX7_goBack 22 = .ok (.invokevirtual 85, 3) := by decide +kernel
theorem dX7_goBack_25 : decode cX7_goBack 25 = .ok (.aload_n 0, 1) := by decide +kernel
theorem dX7_goBack_26 : decode cX7_goBack 26 = .ok (.bipush 7, 2) := by decide +kernel
theorem dX7_goBack_28 : decode cX7_goBack 28 = .ok (.iconst 0, 1) := by decide +kernel
theorem dX7_goBack_29 : decode cX7_goBack 29 = .ok (.invokevirtual 81, 3) := by decide +kernel
theorem dX7_goBack_32 : decode cX7_goBack 32 = .ok (.aload_n 0, 1) := by decide +kernel
theorem dX7_goBack_33 : decode cX7_goBack 33 = .ok (.getfield 7, 3) := by decide +kernel
theorem dX7_goBack_36 : decode cX7_goBack 36 = .ok (.iconst 0, 1) := by decide +kernel
theorem dX7_goBack_37 : decode cX7_goBack 37 = .ok (.iaload, 1) := by decide +kernel
theorem dX7_goBack_38 : decode cX7_goBack 38 = .ok (.ireturn, 1) := by decide +kernel
set_option maxRecDepth 20000 in
theorem ggX7_undo_X7_holds : GoodIn wsX7_undo wsX7_holds := goodIn_r _ [6, 7, 13, 14, 15, 16, 17, 18, 19, 20, 21, 22, 23, 24] (by decide +kernel) (by decide +kernel)
set_option maxRecDepth 20000 in
theorem gX7_undo_X7_holds : GoodIn wsX7_undo (wsV RX7 98 RX7 yX7_holds wsX7_holds) := goodIn_app (goodIn_of _ (by decide +kernel)) ggX7_undo_X7_holds
set_option maxRecDepth 20000 in
theorem ggX7_undo_X7_copies : GoodIn wsX7_undo wsX7_copies := goodIn_r _ [11, 12, 13, 14, 15, 16, 17, 18, 19, 20, 21, 22, 23, 24] (by decide +kernel) (by decide +kernel)
set_option maxRecDepth 20000 in
theorem gX7_undo_X7_copies : GoodIn wsX7_undo (wsV RX7 81 RX7 yX7_copies wsX7_copies) := goodIn_app (goodIn_of _ (by decide +kernel)) ggX7_undo_X7_copies
theorem dX7_undo_0 : decode cX7_undo 0 = .ok (.aload_n 0, 1) := by decide +kernel
theorem dX7_undo_1 : decode cX7_undo 1 = .ok (.aload_n 0, 1) := by decide +kernel
theorem dX7_undo_2 : decode cX7_undo 2 = .ok (.getfield 78, 3) := by decide +kernel
theorem dX7_undo_5 : decode cX7_undo 5 = .ok (.ifCond .le 7, 3) := by decide +kernel
theorem dX7_undo_8 : decode cX7_undo 8 = .ok (.iconst 0, 1) := by decide +kernel
theorem dX7_undo_9 : decode cX7_undo 9 = .ok (.goto 4, 3) := by decide +kernel
theorem dX7_undo_12 : decode cX7_undo 12 = .ok (.iconst 1, 1) := by decide +kernel
theorem dX7_undo_13 : decode cX7_undo 13 = .ok (.invokevirtual 98, 3) := by decide +kernel
theorem dX7_undo_16 : decode cX7_undo 16 = .ok (.ifCond .ne 5, 3) := by decide +kernel
theorem dX7_undo_19 : decode cX7_undo 19 = .ok (.iconst 0, 1) := by decide +kernel
theorem dX7_undo_20 : decode cX7_undo 20 = .ok (.ireturn, 1) := by decide +kernel
theorem dX7_undo_21 : decode cX7_undo 21 = .ok (.aload_n 0, 1) := by decide +kernel
theorem dX7_undo_22 : decode cX7_undo 22 = .ok (.aload_n 0, 1) := by decide +kernel
theorem dX7_undo_23 : decode cX7_undo 23 = .ok (.getfield 78, 3) := by decide +kernel
theorem dX7_undo_26 : decode cX7_undo 26 = .ok (.iconst 0, 1) := by decide +kernel
theorem dX7_undo_27 : decode cX7_undo 27 = .ok (.invokevirtual 81, 3) := by decide +kernel
theorem dX7_undo_30 : decode cX7_undo 30 = .ok (.aload_n 0, 1) := by decide +kernel
theorem dX7_undo_31 : decode cX7_undo 31 = .ok (.dup, 1) := by decide +kernel
theorem dX7_undo_32 : decode cX7_undo 32 = .ok (.getfield 78, 3) := by decide +kernel
theorem dX7_undo_35 : decode cX7_undo 35 = .ok (.iconst 1, 1) := by decide +kernel
theorem dX7_undo_36 : decode cX7_undo 36 = .ok (.isub, 1) := by decide +kernel
theorem dX7_undo_37 : decode cX7_undo 37 = .ok (.putfield 78, 3) := by decide +kernel
theorem dX7_undo_40 : decode cX7_undo 40 = .ok (.aload_n 0, 1) := by decide +kernel
theorem dX7_undo_41 : decode cX7_undo 41 = .ok (.getfield 78, 3) := by decide +kernel
theorem dX7_undo_44 : decode cX7_undo 44 = .ok (.ireturn, 1) := by decide +kernel
set_option maxRecDepth 20000 in
theorem ggX7_ofBalloon_X7_lift : GoodIn wsX7_ofBalloon wsX7_lift := goodIn_r _ [6, 7, 8, 9, 5, 10, 1, 51, 52, 53, 54, 55, 56, 57, 58, 59, 60, 61, 62] (by decide +kernel) (by decide +kernel)
set_option maxRecDepth 20000 in
theorem gX7_ofBalloon_X7_lift : GoodIn wsX7_ofBalloon (wsV RX7 31 RX7 yX7_lift wsX7_lift) := goodIn_app (goodIn_of _ (by decide +kernel)) ggX7_ofBalloon_X7_lift
set_option maxRecDepth 20000 in
theorem ggX7_ofBalloon_X7_wants : GoodIn wsX7_ofBalloon wsX7_wants := goodIn_r _ [14, 2, 3, 4, 5, 6, 7, 8, 9, 10, 1, 51, 52, 53, 54, 55, 56, 57, 58, 59, 60, 61, 62] (by decide +kernel) (by decide +kernel)
set_option maxRecDepth 20000 in
theorem gX7_ofBalloon_X7_wants : GoodIn wsX7_ofBalloon (wsV RX7 35 RX7 yX7_wants wsX7_wants) := goodIn_app (goodIn_of _ (by decide +kernel)) ggX7_ofBalloon_X7_wants
set_option maxRecDepth 20000 in
theorem ggX7_ofBalloon_X7_heightOf : GoodIn wsX7_ofBalloon wsX7_heightOf := goodIn_r _ [18, 19, 20, 21, 22, 5, 23, 11, 12, 13, 14, 2, 3, 4, 6, 7, 8, 9, 10, 1, 24, 25, 26, 27, 28, 29, 30, 31, 32, 33, 34, 51, 52, 53, 54, 55, 56, 57, 58, 59, 60, 61, 62] (by decide +kernel) (by decide +kernel)
set_option maxRecDepth 20000 in
theorem gX7_ofBalloon_X7_heightOf : GoodIn wsX7_ofBalloon (wsV RX7 69 RX7 yX7_heightOf wsX7_heightOf) := goodIn_app (goodIn_of _ (by decide +kernel)) ggX7_ofBalloon_X7_heightOf
set_option maxRecDepth 20000 in
theorem ggX7_ofBalloon_X7_of : GoodIn wsX7_ofBalloon wsX7_of := goodIn_r _ [10, 1, 51, 52, 53, 54, 55, 56, 57, 58, 59, 60, 61, 62] (by decide +kernel) (by decide +kernel)
set_option maxRecDepth 20000 in
theorem gX7_ofBalloon_X7_of : GoodIn wsX7_ofBalloon (wsV RX7 27 RX7 yX7_of wsX7_of) := goodIn_app (goodIn_of _ (by decide +kernel)) ggX7_ofBalloon_X7_of
set_option maxRecDepth 20000 in
theorem ggX7_ofBalloon_X7_tells : GoodIn wsX7_ofBalloon wsX7_tells := goodIn_r _ [38, 1, 15, 16, 17, 5, 18, 19, 20, 21, 22, 23, 11, 12, 13, 14, 2, 3, 4, 6, 7, 8, 9, 10, 24, 25, 26, 27, 28, 29, 30, 31, 32, 33, 34, 51, 52, 53, 54, 55, 56, 57, 58, 59, 60, 61, 62] (by decide +kernel) (by decide +kernel)
set_option maxRecDepth 20000 in
theorem gX7_ofBalloon_X7_tells : GoodIn wsX7_ofBalloon (wsV RX7 75 RX7 yX7_tells wsX7_tells) := goodIn_app (goodIn_of _ (by decide +kernel)) ggX7_ofBalloon_X7_tells
set_option maxRecDepth 20000 in
theorem ggX7_ofBalloon_X7_lowestOf : GoodIn wsX7_ofBalloon wsX7_lowestOf := goodIn_r _ [42, 24, 25, 26, 5, 27, 1, 51, 52, 53, 54, 55, 56, 57, 58, 59, 60, 61, 62] (by decide +kernel) (by decide +kernel)
set_option maxRecDepth 20000 in
theorem gX7_ofBalloon_X7_lowestOf : GoodIn wsX7_ofBalloon (wsV RX7 128 RX7 yX7_lowestOf wsX7_lowestOf) := goodIn_app (goodIn_of _ (by decide +kernel)) ggX7_ofBalloon_X7_lowestOf
set_option maxRecDepth 20000 in
theorem ggX7_ofBalloon_X7_stringOf : GoodIn wsX7_ofBalloon wsX7_stringOf := goodIn_r _ [46, 47, 48, 49, 5, 50, 24, 25, 26, 27, 1, 39, 40, 41, 42, 51, 52, 53, 54, 55, 56, 57, 58, 59, 60, 61, 62] (by decide +kernel) (by decide +kernel)
set_option maxRecDepth 20000 in
theorem gX7_ofBalloon_X7_stringOf : GoodIn wsX7_ofBalloon (wsV RX7 137 RX7 yX7_stringOf wsX7_stringOf) := goodIn_app (goodIn_of _ (by decide +kernel)) ggX7_ofBalloon_X7_stringOf
theorem dX7_ofBalloon_0 : decode cX7_ofBalloon 0 = .ok (.iload_n 2, 1) := by decide +kernel
theorem dX7_ofBalloon_1 : decode cX7_ofBalloon 1 = .ok (.tableswitch 112 3 11 #[51, 58, 65, 65, 71, 79, 94, 100, 106], 51) := by decide +kernel
theorem dX7_ofBalloon_52 : decode cX7_ofBalloon 52 = .ok (.aload_n 0, 1) := by decide +kernel
theorem dX7_ofBalloon_53 : decode cX7_ofBalloon 53 = .ok (.iconst 0, 1) := by decide +kernel
theorem dX7_ofBalloon_54 : decode cX7_ofBalloon 54 = .ok (.iload_n 1, 1) := by decide +kernel
theorem dX7_ofBalloon_55 : decode cX7_ofBalloon 55 = .ok (.invokevirtual 31, 3) := by decide +kernel
theorem dX7_ofBalloon_58 : decode cX7_ofBalloon 58 = .ok (.ireturn, 1) := by decide +kernel
theorem dX7_ofBalloon_59 : decode cX7_ofBalloon 59 = .ok (.aload_n 0, 1) := by decide +kernel
theorem dX7_ofBalloon_60 : decode cX7_ofBalloon 60 = .ok (.iconst 0, 1) := by decide +kernel
theorem dX7_ofBalloon_61 : decode cX7_ofBalloon 61 = .ok (.iload_n 1, 1) := by decide +kernel
theorem dX7_ofBalloon_62 : decode cX7_ofBalloon 62 = .ok (.invokevirtual 35, 3) := by decide +kernel
theorem dX7_ofBalloon_65 : decode cX7_ofBalloon 65 = .ok (.ireturn, 1) := by decide +kernel
theorem dX7_ofBalloon_66 : decode cX7_ofBalloon 66 = .ok (.aload_n 0, 1) := by decide +kernel
theorem dX7_ofBalloon_67 : decode cX7_ofBalloon 67 = .ok (.iload_n 1, 1) := by decide +kernel
theorem dX7_ofBalloon_68 : decode cX7_ofBalloon 68 = .ok (.invokevirtual 69, 3) := by decide +kernel
theorem dX7_ofBalloon_71 : decode cX7_ofBalloon 71 = .ok (.ireturn, 1) := by decide +kernel
theorem dX7_ofBalloon_72 : decode cX7_ofBalloon 72 = .ok (.aload_n 0, 1) := by decide +kernel
theorem dX7_ofBalloon_73 : decode cX7_ofBalloon 73 = .ok (.iconst 0, 1) := by decide +kernel
theorem dX7_ofBalloon_74 : decode cX7_ofBalloon 74 = .ok (.iload_n 1, 1) := by decide +kernel
theorem dX7_ofBalloon_75 : decode cX7_ofBalloon 75 = .ok (.iconst 3, 1) := by decide +kernel
theorem dX7_ofBalloon_76 : decode cX7_ofBalloon 76 = .ok (.invokevirtual 27, 3) := by decide +kernel
theorem dX7_ofBalloon_79 : decode cX7_ofBalloon 79 = .ok (.ireturn, 1) := by decide +kernel
theorem dX7_ofBalloon_80 : decode cX7_ofBalloon 80 = .ok (.aload_n 0, 1) := by decide +kernel
theorem dX7_ofBalloon_81 : decode cX7_ofBalloon 81 = .ok (.getfield 7, 3) := by decide +kernel
theorem dX7_ofBalloon_84 : decode cX7_ofBalloon 84 = .ok (.iconst 0, 1) := by decide +kernel
theorem dX7_ofBalloon_85 : decode cX7_ofBalloon 85 = .ok (.iaload, 1) := by decide +kernel
theorem dX7_ofBalloon_86 : decode cX7_ofBalloon 86 = .ok (.aload_n 0, 1) := by decide +kernel
theorem dX7_ofBalloon_87 : decode cX7_ofBalloon 87 = .ok (.iconst 0, 1) := by decide +kernel
theorem dX7_ofBalloon_88 : decode cX7_ofBalloon 88 = .ok (.iload_n 1, 1) := by decide +kernel
theorem dX7_ofBalloon_89 : decode cX7_ofBalloon 89 = .ok (.iconst 4, 1) := by decide +kernel
theorem dX7_ofBalloon_90 : decode cX7_ofBalloon 90 = .ok (.invokevirtual 27, 3) := by decide +kernel
theorem dX7_ofBalloon_93 : decode cX7_ofBalloon 93 = .ok (.isub, 1) := by decide +kernel
theorem dX7_ofBalloon_94 : decode cX7_ofBalloon 94 = .ok (.ireturn, 1) := by decide +kernel
theorem dX7_ofBalloon_95 : decode cX7_ofBalloon 95 = .ok (.aload_n 0, 1) := by decide +kernel
theorem dX7_ofBalloon_96 : decode cX7_ofBalloon 96 = .ok (.iload_n 1, 1) := by decide +kernel
theorem dX7_ofBalloon_97 : decode cX7_ofBalloon 97 = .ok (.invokevirtual 75, 3) := by decide +kernel
theorem dX7_ofBalloon_100 : decode cX7_ofBalloon 100 = .ok (.ireturn, 1) := by decide +kernel
theorem dX7_ofBalloon_101 : decode cX7_ofBalloon 101 = .ok (.aload_n 0, 1) := by decide +kernel
theorem dX7_ofBalloon_102 : decode cX7_ofBalloon 102 = .ok (.iload_n 1, 1) := by decide +kernel
theorem dX7_ofBalloon_103 : decode cX7_ofBalloon 103 = .ok (.invokevirtual 128, 3) := by decide +kernel
theorem dX7_ofBalloon_106 : decode cX7_ofBalloon 106 = .ok (.ireturn, 1) := by decide +kernel
theorem dX7_ofBalloon_107 : decode cX7_ofBalloon 107 = .ok (.aload_n 0, 1) := by decide +kernel
theorem dX7_ofBalloon_108 : decode cX7_ofBalloon 108 = .ok (.iload_n 1, 1) := by decide +kernel
theorem dX7_ofBalloon_109 : decode cX7_ofBalloon 109 = .ok (.invokevirtual 137, 3) := by decide +kernel
theorem dX7_ofBalloon_112 : decode cX7_ofBalloon 112 = .ok (.ireturn, 1) := by decide +kernel
theorem dX7_ofBalloon_113 : decode cX7_ofBalloon 113 = .ok (.aload_n 0, 1) := by decide +kernel
theorem dX7_ofBalloon_114 : decode cX7_ofBalloon 114 = .ok (.iconst 0, 1) := by decide +kernel
theorem dX7_ofBalloon_115 : decode cX7_ofBalloon 115 = .ok (.iload_n 1, 1) := by decide +kernel
theorem dX7_ofBalloon_116 : decode cX7_ofBalloon 116 = .ok (.iload_n 2, 1) := by decide +kernel
theorem dX7_ofBalloon_117 : decode cX7_ofBalloon 117 = .ok (.invokevirtual 27, 3) := by decide +kernel
theorem dX7_ofBalloon_120 : decode cX7_ofBalloon 120 = .ok (.ireturn, 1) := by decide +kernel
set_option maxRecDepth 20000 in
theorem ggX7_balloon_X7_isBalloon : GoodIn wsX7_balloon wsX7_isBalloon := goodIn_r _ [4, 5, 6, 3, 7] (by decide +kernel) (by decide +kernel)
set_option maxRecDepth 20000 in
theorem gX7_balloon_X7_isBalloon : GoodIn wsX7_balloon (va_wsS RX7 88 yX7_isBalloon wsX7_isBalloon) := goodIn_app (goodIn_of _ (by decide +kernel)) ggX7_balloon_X7_isBalloon
set_option maxRecDepth 20000 in
theorem ggX7_balloon_X7_in : GoodIn wsX7_balloon wsX7_in := goodIn_r _ [7] (by decide +kernel) (by decide +kernel)
set_option maxRecDepth 20000 in
theorem gX7_balloon_X7_in : GoodIn wsX7_balloon (va_wsS RX7 23 yX7_in wsX7_in) := goodIn_app (goodIn_of _ (by decide +kernel)) ggX7_balloon_X7_in
set_option maxRecDepth 20000 in
theorem ggX7_balloon_X7_holds : GoodIn wsX7_balloon wsX7_holds := goodIn_r _ [11, 12, 66, 67, 68, 69, 70, 71, 72, 73, 74, 75, 76, 77] (by decide +kernel) (by decide +kernel)
set_option maxRecDepth 20000 in
theorem gX7_balloon_X7_holds : GoodIn wsX7_balloon (wsV RX7 98 RX7 yX7_holds wsX7_holds) := goodIn_app (goodIn_of _ (by decide +kernel)) ggX7_balloon_X7_holds
set_option maxRecDepth 20000 in
theorem ggX7_balloon_X7_ofBalloon : GoodIn wsX7_balloon wsX7_ofBalloon := goodIn_r _ [16, 17, 18, 19, 20, 3, 21, 22, 23, 24, 25, 26, 27, 28, 29, 30, 31, 32, 33, 34, 35, 36, 37, 38, 39, 40, 41, 42, 43, 44, 45, 46, 47, 48, 49, 50, 51, 52, 53, 54, 55, 56, 57, 58, 59, 60, 61, 62, 63, 64, 65, 66, 67, 68, 69, 70, 71, 72, 73, 74, 75, 76, 77] (by decide +kernel) (by decide +kernel)
set_option maxRecDepth 20000 in
theorem gX7_balloon_X7_ofBalloon : GoodIn wsX7_balloon (wsV RX7 197 RX7 yX7_ofBalloon wsX7_ofBalloon) := goodIn_app (goodIn_of _ (by decide +kernel)) ggX7_balloon_X7_ofBalloon
theorem dX7_balloon_0 : decode cX7_balloon 0 = .ok (.aload_n 0, 1) := by decide +kernel
theorem dX7_balloon_1 : decode cX7_balloon 1 = .ok (.iload_n 1, 1) := by decide +kernel
theorem dX7_balloon_2 : decode cX7_balloon 2 = .ok (.invokestatic 88, 3) := by decide +kernel
theorem dX7_balloon_5 : decode cX7_balloon 5 = .ok (.ifCond .ne 7, 3) := by decide +kernel
theorem dX7_balloon_8 : decode cX7_balloon 8 = .ok (.iconst 1, 1) := by decide +kernel
theorem dX7_balloon_9 : decode cX7_balloon 9 = .ok (.goto 18, 3) := by decide +kernel
theorem dX7_balloon_12 : decode cX7_balloon 12 = .ok (.iload_n 2, 1) := by decide +kernel
theorem dX7_balloon_13 : decode cX7_balloon 13 = .ok (.iconst 0, 1) := by decide +kernel
theorem dX7_balloon_14 : decode cX7_balloon 14 = .ok (.bipush 11, 2) := by decide +kernel
theorem dX7_balloon_16 : decode cX7_balloon 16 = .ok (.invokestatic 23, 3) := by decide +kernel
theorem dX7_balloon_19 : decode cX7_balloon 19 = .ok (.ifCond .ne 7, 3) := by decide +kernel
theorem dX7_balloon_22 : decode cX7_balloon 22 = .ok (.iconst 2, 1) := by decide +kernel
theorem dX7_balloon_23 : decode cX7_balloon 23 = .ok (.goto 4, 3) := by decide +kernel
theorem dX7_balloon_26 : decode cX7_balloon 26 = .ok (.iconst 0, 1) := by decide +kernel
theorem dX7_balloon_27 : decode cX7_balloon 27 = .ok (.invokevirtual 98, 3) := by decide +kernel
theorem dX7_balloon_30 : decode cX7_balloon 30 = .ok (.ifCond .eq 12, 3) := by decide +kernel
theorem dX7_balloon_33 : decode cX7_balloon 33 = .ok (.aload_n 0, 1) := by decide +kernel
theorem dX7_balloon_34 : decode cX7_balloon 34 = .ok (.iload_n 1, 1) := by decide +kernel
theorem dX7_balloon_35 : decode cX7_balloon 35 = .ok (.iload_n 2, 1) := by decide +kernel
theorem dX7_balloon_36 : decode cX7_balloon 36 = .ok (.invokevirtual 197, 3) := by decide +kernel
theorem dX7_balloon_39 : decode cX7_balloon 39 = .ok (.goto 4, 3) := by decide +kernel
theorem dX7_balloon_42 : decode cX7_balloon 42 = .ok (.iconst 0, 1) := by decide +kernel
theorem dX7_balloon_43 : decode cX7_balloon 43 = .ok (.ireturn, 1) := by decide +kernel
set_option maxRecDepth 20000 in
theorem ggX7_ofRibbon_X7_rises : GoodIn wsX7_ofRibbon wsX7_rises := goodIn_r _ [6, 7, 8, 9, 10, 5, 11, 12, 13, 14, 15, 16, 17, 18, 19, 1, 20, 21, 22, 23, 24, 25, 26, 27, 28, 29, 30, 39, 40, 41, 42, 43, 44, 45, 46, 47, 48, 49, 50] (by decide +kernel) (by decide +kernel)
set_option maxRecDepth 20000 in
theorem gX7_ofRibbon_X7_rises : GoodIn wsX7_ofRibbon (wsV RX7 48 RX7 yX7_rises wsX7_rises) := goodIn_app (goodIn_of _ (by decide +kernel)) ggX7_ofRibbon_X7_rises
set_option maxRecDepth 20000 in
theorem ggX7_ofRibbon_X7_pull : GoodIn wsX7_ofRibbon wsX7_pull := goodIn_r _ [34, 7, 24, 25, 26, 5, 27, 1, 20, 21, 22, 23, 8, 9, 10, 11, 12, 13, 14, 15, 16, 17, 18, 19, 39, 40, 41, 42, 43, 44, 45, 46, 47, 48, 49, 50] (by decide +kernel) (by decide +kernel)
set_option maxRecDepth 20000 in
theorem gX7_ofRibbon_X7_pull : GoodIn wsX7_ofRibbon (wsV RX7 52 RX7 yX7_pull wsX7_pull) := goodIn_app (goodIn_of _ (by decide +kernel)) ggX7_ofRibbon_X7_pull
set_option maxRecDepth 20000 in
theorem ggX7_ofRibbon_X7_bears : GoodIn wsX7_ofRibbon wsX7_bears := goodIn_r _ [38, 1, 39, 40, 41, 42, 43, 44, 45, 46, 47, 48, 49, 50] (by decide +kernel) (by decide +kernel)
set_option maxRecDepth 20000 in
theorem gX7_ofRibbon_X7_bears : GoodIn wsX7_ofRibbon (wsV RX7 55 RX7 yX7_bears wsX7_bears) := goodIn_app (goodIn_of _ (by decide +kernel)) ggX7_ofRibbon_X7_bears
theorem dX7_ofRibbon_0 : decode cX7_ofRibbon 0 = .ok (.iload_n 2, 1) := by decide +kernel
theorem dX7_ofRibbon_1 : decode cX7_ofRibbon 1 = .ok (.iconst 3, 1) := by decide +kernel
theorem dX7_ofRibbon_2 : decode cX7_ofRibbon 2 = .ok (.if_icmp .ge 17, 3) := by decide +kernel
theorem dX7_ofRibbon_5 : decode cX7_ofRibbon 5 = .ok (.aload_n 0, 1) := by decide +kernel
theorem dX7_ofRibbon_6 : decode cX7_ofRibbon 6 = .ok (.getfield 7, 3) := by decide +kernel
theorem dX7_ofRibbon_9 : decode cX7_ofRibbon 9 = .ok (.bipush 49, 2) := by decide +kernel
theorem dX7_ofRibbon_11 : decode cX7_ofRibbon 11 = .ok (.iconst 3, 1) := by decide +kernel
theorem dX7_ofRibbon_12 : decode cX7_ofRibbon 12 = .ok (.iload_n 1, 1) := by decide +kernel
theorem dX7_ofRibbon_13 : decode cX7_ofRibbon 13 = .ok (.imul, 1) := by decide +kernel
theorem dX7_ofRibbon_14 : decode cX7_ofRibbon 14 = .ok (.iadd, 1) := by decide +kernel
theorem dX7_ofRibbon_15 : decode cX7_ofRibbon 15 = .ok (.iload_n 2, 1) := by decide +kernel
theorem dX7_ofRibbon_16 : decode cX7_ofRibbon 16 = .ok (.iadd, 1) := by decide +kernel
theorem dX7_ofRibbon_17 : decode cX7_ofRibbon 17 = .ok (.iaload, 1) := by decide +kernel
theorem dX7_ofRibbon_18 : decode cX7_ofRibbon 18 = .ok (.ireturn, 1) := by decide +kernel
theorem dX7_ofRibbon_19 : decode cX7_ofRibbon 19 = .ok (.aload_n 0, 1) := by decide +kernel
theorem dX7_ofRibbon_20 : decode cX7_ofRibbon 20 = .ok (.iconst 0, 1) := by decide +kernel
theorem dX7_ofRibbon_21 : decode cX7_ofRibbon 21 = .ok (.invokevirtual 48, 3) := by decide +kernel
theorem dX7_ofRibbon_24 : decode cX7_ofRibbon 24 = .ok (.aload_n 0, 1) := by decide +kernel
theorem dX7_ofRibbon_25 : decode cX7_ofRibbon 25 = .ok (.iconst 0, 1) := by decide +kernel
theorem dX7_ofRibbon_26 : decode cX7_ofRibbon 26 = .ok (.iload_n 1, 1) := by decide +kernel
theorem dX7_ofRibbon_27 : decode cX7_ofRibbon 27 = .ok (.invokevirtual 52, 3) := by decide +kernel
theorem dX7_ofRibbon_30 : decode cX7_ofRibbon 30 = .ok (.istore_n 3, 1) := by decide +kernel
theorem dX7_ofRibbon_31 : decode cX7_ofRibbon 31 = .ok (.iload_n 2, 1) := by decide +kernel
theorem dX7_ofRibbon_32 : decode cX7_ofRibbon 32 = .ok (.iconst 3, 1) := by decide +kernel
theorem dX7_ofRibbon_33 : decode cX7_ofRibbon 33 = .ok (.if_icmp .ne 7, 3) := by decide +kernel
theorem dX7_ofRibbon_36 : decode cX7_ofRibbon 36 = .ok (.iload_n 3, 1) := by decide +kernel
theorem dX7_ofRibbon_37 : decode cX7_ofRibbon 37 = .ok (.goto 18, 3) := by decide +kernel
theorem dX7_ofRibbon_40 : decode cX7_ofRibbon 40 = .ok (.iload_n 3, 1) := by decide +kernel
theorem dX7_ofRibbon_41 : decode cX7_ofRibbon 41 = .ok (.aload_n 0, 1) := by decide +kernel
theorem dX7_ofRibbon_42 : decode cX7_ofRibbon 42 = .ok (.iconst 0, 1) := by decide +kernel
theorem dX7_ofRibbon_43 : decode cX7_ofRibbon 43 = .ok (.iload_n 1, 1) := by decide +kernel
theorem dX7_ofRibbon_44 : decode cX7_ofRibbon 44 = .ok (.invokevirtual 55, 3) := by decide +kernel
theorem dX7_ofRibbon_47 : decode cX7_ofRibbon 47 = .ok (.if_icmp .le 7, 3) := by decide +kernel
theorem dX7_ofRibbon_50 : decode cX7_ofRibbon 50 = .ok (.iconst 1, 1) := by decide +kernel
theorem dX7_ofRibbon_51 : decode cX7_ofRibbon 51 = .ok (.goto 4, 3) := by decide +kernel
theorem dX7_ofRibbon_54 : decode cX7_ofRibbon 54 = .ok (.iconst 0, 1) := by decide +kernel
theorem dX7_ofRibbon_55 : decode cX7_ofRibbon 55 = .ok (.ireturn, 1) := by decide +kernel
set_option maxRecDepth 20000 in
theorem ggX7_ribbon_X7_isRibbon : GoodIn wsX7_ribbon wsX7_isRibbon := goodIn_r _ [4, 5, 6, 3, 7] (by decide +kernel) (by decide +kernel)
set_option maxRecDepth 20000 in
theorem gX7_ribbon_X7_isRibbon : GoodIn wsX7_ribbon (va_wsS RX7 131 yX7_isRibbon wsX7_isRibbon) := goodIn_app (goodIn_of _ (by decide +kernel)) ggX7_ribbon_X7_isRibbon
set_option maxRecDepth 20000 in
theorem ggX7_ribbon_X7_in : GoodIn wsX7_ribbon wsX7_in := goodIn_r _ [7] (by decide +kernel) (by decide +kernel)
set_option maxRecDepth 20000 in
theorem gX7_ribbon_X7_in : GoodIn wsX7_ribbon (va_wsS RX7 23 yX7_in wsX7_in) := goodIn_app (goodIn_of _ (by decide +kernel)) ggX7_ribbon_X7_in
set_option maxRecDepth 20000 in
theorem ggX7_ribbon_X7_holds : GoodIn wsX7_ribbon wsX7_holds := goodIn_r _ [11, 12, 54, 55, 56, 57, 58, 59, 60, 61, 62, 63, 64, 65] (by decide +kernel) (by decide +kernel)
set_option maxRecDepth 20000 in
theorem gX7_ribbon_X7_holds : GoodIn wsX7_ribbon (wsV RX7 98 RX7 yX7_holds wsX7_holds) := goodIn_app (goodIn_of _ (by decide +kernel)) ggX7_ribbon_X7_holds
set_option maxRecDepth 20000 in
theorem ggX7_ribbon_X7_ofRibbon : GoodIn wsX7_ribbon wsX7_ofRibbon := goodIn_r _ [16, 17, 18, 19, 20, 3, 21, 22, 23, 24, 25, 26, 27, 28, 29, 30, 31, 32, 33, 34, 35, 36, 37, 38, 39, 40, 41, 42, 43, 44, 45, 46, 47, 48, 49, 50, 51, 52, 53, 54, 55, 56, 57, 58, 59, 60, 61, 62, 63, 64, 65] (by decide +kernel) (by decide +kernel)
set_option maxRecDepth 20000 in
theorem gX7_ribbon_X7_ofRibbon : GoodIn wsX7_ribbon (wsV RX7 200 RX7 yX7_ofRibbon wsX7_ofRibbon) := goodIn_app (goodIn_of _ (by decide +kernel)) ggX7_ribbon_X7_ofRibbon
theorem dX7_ribbon_0 : decode cX7_ribbon 0 = .ok (.aload_n 0, 1) := by decide +kernel
theorem dX7_ribbon_1 : decode cX7_ribbon 1 = .ok (.iload_n 1, 1) := by decide +kernel
theorem dX7_ribbon_2 : decode cX7_ribbon 2 = .ok (.invokestatic 131, 3) := by decide +kernel
theorem dX7_ribbon_5 : decode cX7_ribbon 5 = .ok (.ifCond .ne 7, 3) := by decide +kernel
theorem dX7_ribbon_8 : decode cX7_ribbon 8 = .ok (.iconst 1, 1) := by decide +kernel
theorem dX7_ribbon_9 : decode cX7_ribbon 9 = .ok (.goto 17, 3) := by decide +kernel
theorem dX7_ribbon_12 : decode cX7_ribbon 12 = .ok (.iload_n 2, 1) := by decide +kernel
theorem dX7_ribbon_13 : decode cX7_ribbon 13 = .ok (.iconst 0, 1) := by decide +kernel
theorem dX7_ribbon_14 : decode cX7_ribbon 14 = .ok (.iconst 4, 1) := by decide +kernel
theorem dX7_ribbon_15 : decode cX7_ribbon 15 = .ok (.invokestatic 23, 3) := by decide +kernel
theorem dX7_ribbon_18 : decode cX7_ribbon 18 = .ok (.ifCond .ne 7, 3) := by decide +kernel
theorem dX7_ribbon_21 : decode cX7_ribbon 21 = .ok (.iconst 2, 1) := by decide +kernel
theorem dX7_ribbon_22 : decode cX7_ribbon 22 = .ok (.goto 4, 3) := by decide +kernel
theorem dX7_ribbon_25 : decode cX7_ribbon 25 = .ok (.iconst 0, 1) := by decide +kernel
theorem dX7_ribbon_26 : decode cX7_ribbon 26 = .ok (.invokevirtual 98, 3) := by decide +kernel
theorem dX7_ribbon_29 : decode cX7_ribbon 29 = .ok (.ifCond .eq 12, 3) := by decide +kernel
theorem dX7_ribbon_32 : decode cX7_ribbon 32 = .ok (.aload_n 0, 1) := by decide +kernel
theorem dX7_ribbon_33 : decode cX7_ribbon 33 = .ok (.iload_n 1, 1) := by decide +kernel
theorem dX7_ribbon_34 : decode cX7_ribbon 34 = .ok (.iload_n 2, 1) := by decide +kernel
theorem dX7_ribbon_35 : decode cX7_ribbon 35 = .ok (.invokevirtual 200, 3) := by decide +kernel
theorem dX7_ribbon_38 : decode cX7_ribbon 38 = .ok (.goto 4, 3) := by decide +kernel
theorem dX7_ribbon_41 : decode cX7_ribbon 41 = .ok (.iconst 0, 1) := by decide +kernel
theorem dX7_ribbon_42 : decode cX7_ribbon 42 = .ok (.ireturn, 1) := by decide +kernel
set_option maxRecDepth 20000 in
theorem ggX7_noted_X7_in : GoodIn wsX7_noted wsX7_in := goodIn_r _ [5] (by decide +kernel) (by decide +kernel)
set_option maxRecDepth 20000 in
theorem gX7_noted_X7_in : GoodIn wsX7_noted (va_wsS RX7 23 yX7_in wsX7_in) := goodIn_app (goodIn_of _ (by decide +kernel)) ggX7_noted_X7_in
set_option maxRecDepth 20000 in
theorem ggX7_noted_X7_holds : GoodIn wsX7_noted wsX7_holds := goodIn_r _ [9, 10, 11, 12, 13, 14, 15, 16, 17, 18, 19, 20, 21, 22] (by decide +kernel) (by decide +kernel)
set_option maxRecDepth 20000 in
theorem gX7_noted_X7_holds : GoodIn wsX7_noted (wsV RX7 98 RX7 yX7_holds wsX7_holds) := goodIn_app (goodIn_of _ (by decide +kernel)) ggX7_noted_X7_holds
theorem dX7_noted_0 : decode cX7_noted 0 = .ok (.aload_n 0, 1) := by decide +kernel
theorem dX7_noted_1 : decode cX7_noted 1 = .ok (.iload_n 1, 1) := by decide +kernel
theorem dX7_noted_2 : decode cX7_noted 2 = .ok (.ifCond .ge 7, 3) := by decide +kernel
theorem dX7_noted_5 : decode cX7_noted 5 = .ok (.iconst 1, 1) := by decide +kernel
theorem dX7_noted_6 : decode cX7_noted 6 = .ok (.goto 17, 3) := by decide +kernel
theorem dX7_noted_9 : decode cX7_noted 9 = .ok (.iload_n 2, 1) := by decide +kernel
theorem dX7_noted_10 : decode cX7_noted 10 = .ok (.iconst 0, 1) := by decide +kernel
theorem dX7_noted_11 : decode cX7_noted 11 = .ok (.iconst 2, 1) := by decide +kernel
theorem dX7_noted_12 : decode cX7_noted 12 = .ok (.invokestatic 23, 3) := by decide +kernel
theorem dX7_noted_15 : decode cX7_noted 15 = .ok (.ifCond .ne 7, 3) := by decide +kernel
theorem dX7_noted_18 : decode cX7_noted 18 = .ok (.iconst 2, 1) := by decide +kernel
theorem dX7_noted_19 : decode cX7_noted 19 = .ok (.goto 4, 3) := by decide +kernel
theorem dX7_noted_22 : decode cX7_noted 22 = .ok (.iconst 0, 1) := by decide +kernel
theorem dX7_noted_23 : decode cX7_noted 23 = .ok (.invokevirtual 98, 3) := by decide +kernel
theorem dX7_noted_26 : decode cX7_noted 26 = .ok (.ifCond .ne 5, 3) := by decide +kernel
theorem dX7_noted_29 : decode cX7_noted 29 = .ok (.iconst 0, 1) := by decide +kernel
theorem dX7_noted_30 : decode cX7_noted 30 = .ok (.ireturn, 1) := by decide +kernel
theorem dX7_noted_31 : decode cX7_noted 31 = .ok (.iload_n 1, 1) := by decide +kernel
theorem dX7_noted_32 : decode cX7_noted 32 = .ok (.aload_n 0, 1) := by decide +kernel
theorem dX7_noted_33 : decode cX7_noted 33 = .ok (.getfield 7, 3) := by decide +kernel
theorem dX7_noted_36 : decode cX7_noted 36 = .ok (.bipush 8, 2) := by decide +kernel
theorem dX7_noted_38 : decode cX7_noted 38 = .ok (.iaload, 1) := by decide +kernel
theorem dX7_noted_39 : decode cX7_noted 39 = .ok (.if_icmp .ge 19, 3) := by decide +kernel
theorem dX7_noted_42 : decode cX7_noted 42 = .ok (.aload_n 0, 1) := by decide +kernel
theorem dX7_noted_43 : decode cX7_noted 43 = .ok (.getfield 7, 3) := by decide +kernel
theorem dX7_noted_46 : decode cX7_noted 46 = .ok (.bipush 70, 2) := by decide +kernel
theorem dX7_noted_48 : decode cX7_noted 48 = .ok (.iconst 3, 1) := by decide +kernel
theorem dX7_noted_49 : decode cX7_noted 49 = .ok (.iload_n 1, 1) := by decide +kernel
theorem dX7_noted_50 : decode cX7_noted 50 = .ok (.imul, 1) := by decide +kernel
theorem dX7_noted_51 : decode cX7_noted 51 = .ok (.iadd, 1) := by decide +kernel
theorem dX7_noted_52 : decode cX7_noted 52 = .ok (.iload_n 2, 1) := by decide +kernel
theorem dX7_noted_53 : decode cX7_noted 53 = .ok (.iadd, 1) := by decide +kernel
theorem dX7_noted_54 : decode cX7_noted 54 = .ok (.iaload, 1) := by decide +kernel
theorem dX7_noted_55 : decode cX7_noted 55 = .ok (.goto 6, 3) := by decide +kernel
theorem dX7_noted_58 : decode cX7_noted 58 = .ok (.sipush (-1000), 3) := by decide +kernel
theorem dX7_noted_61 : decode cX7_noted 61 = .ok (.ireturn, 1) := by decide +kernel
set_option maxRecDepth 20000 in
theorem ggX7_allGas_X7_of : GoodIn wsX7_allGas wsX7_of := goodIn_r _ [5, 6, 7, 8, 9, 10, 11, 12, 13, 14, 15, 16, 17, 18] (by decide +kernel) (by decide +kernel)
set_option maxRecDepth 20000 in
theorem gX7_allGas_X7_of : GoodIn wsX7_allGas (wsV RX7 27 RX7 yX7_of wsX7_of) := goodIn_app (goodIn_of _ (by decide +kernel)) ggX7_allGas_X7_of
theorem dX7_allGas_0 : decode cX7_allGas 0 = .ok (.iconst 0, 1) := by decide +kernel
theorem dX7_allGas_1 : decode cX7_allGas 1 = .ok (.istore_n 1, 1) := by decide +kernel
theorem dX7_allGas_2 : decode cX7_allGas 2 = .ok (.iconst 0, 1) := by decide +kernel
theorem dX7_allGas_3 : decode cX7_allGas 3 = .ok (.istore_n 2, 1) := by decide +kernel
theorem dX7_allGas_4 : decode cX7_allGas 4 = .ok (.iload_n 2, 1) := by decide +kernel
theorem dX7_allGas_5 : decode cX7_allGas 5 = .ok (.bipush 8, 2) := by decide +kernel
theorem dX7_allGas_7 : decode cX7_allGas 7 = .ok (.if_icmp .ge 19, 3) := by decide +kernel
theorem dX7_allGas_10 : decode cX7_allGas 10 = .ok (.iload_n 1, 1) := by decide +kernel
theorem dX7_allGas_11 : decode cX7_allGas 11 = .ok (.aload_n 0, 1) := by decide +kernel
theorem dX7_allGas_12 : decode cX7_allGas 12 = .ok (.iconst 0, 1) := by decide +kernel
theorem dX7_allGas_13 : decode cX7_allGas 13 = .ok (.iload_n 2, 1) := by decide +kernel
theorem dX7_allGas_14 : decode cX7_allGas 14 = .ok (.iconst 0, 1) := by decide +kernel
theorem dX7_allGas_15 : decode cX7_allGas 15 = .ok (.invokevirtual 27, 3) := by decide +kernel
theorem dX7_allGas_18 : decode cX7_allGas 18 = .ok (.iadd, 1) := by decide +kernel
theorem dX7_allGas_19 : decode cX7_allGas 19 = .ok (.istore_n 1, 1) := by decide +kernel
theorem dX7_allGas_20 : decode cX7_allGas 20 = .ok (.iinc 2 1, 3) := by decide +kernel
theorem dX7_allGas_23 : decode cX7_allGas 23 = .ok (.goto (-19), 3) := by decide +kernel
theorem dX7_allGas_26 : decode cX7_allGas 26 = .ok (.iload_n 1, 1) := by decide +kernel
theorem dX7_allGas_27 : decode cX7_allGas 27 = .ok (.ireturn, 1) := by decide +kernel
set_option maxRecDepth 20000 in
theorem ggX7_tied_X7_isTied : GoodIn wsX7_tied wsX7_isTied := goodIn_r _ [5, 6, 7, 8, 9, 10, 11, 12, 13, 14, 15, 16, 17, 18] (by decide +kernel) (by decide +kernel)
set_option maxRecDepth 20000 in
theorem gX7_tied_X7_isTied : GoodIn wsX7_tied (wsV RX7 38 RX7 yX7_isTied wsX7_isTied) := goodIn_app (goodIn_of _ (by decide +kernel)) ggX7_tied_X7_isTied
theorem dX7_tied_0 : decode cX7_tied 0 = .ok (.iconst 0, 1) := by decide +kernel
theorem dX7_tied_1 : decode cX7_tied 1 = .ok (.istore_n 1, 1) := by decide +kernel
theorem dX7_tied_2 : decode cX7_tied 2 = .ok (.iconst 0, 1) := by decide +kernel
theorem dX7_tied_3 : decode cX7_tied 3 = .ok (.istore_n 2, 1) := by decide +kernel
theorem dX7_tied_4 : decode cX7_tied 4 = .ok (.iload_n 2, 1) := by decide +kernel
theorem dX7_tied_5 : decode cX7_tied 5 = .ok (.bipush 7, 2) := by decide +kernel
theorem dX7_tied_7 : decode cX7_tied 7 = .ok (.if_icmp .ge 26, 3) := by decide +kernel
theorem dX7_tied_10 : decode cX7_tied 10 = .ok (.iload_n 1, 1) := by decide +kernel
theorem dX7_tied_11 : decode cX7_tied 11 = .ok (.aload_n 0, 1) := by decide +kernel
theorem dX7_tied_12 : decode cX7_tied 12 = .ok (.iconst 0, 1) := by decide +kernel
theorem dX7_tied_13 : decode cX7_tied 13 = .ok (.iload_n 2, 1) := by decide +kernel
theorem dX7_tied_14 : decode cX7_tied 14 = .ok (.invokevirtual 38, 3) := by decide +kernel
theorem dX7_tied_17 : decode cX7_tied 17 = .ok (.ifCond .eq 7, 3) := by decide +kernel
theorem dX7_tied_20 : decode cX7_tied 20 = .ok (.iconst 1, 1) := by decide +kernel
theorem dX7_tied_21 : decode cX7_tied 21 = .ok (.goto 4, 3) := by decide +kernel
theorem dX7_tied_24 : decode cX7_tied 24 = .ok (.iconst 0, 1) := by decide +kernel
theorem dX7_tied_25 : decode cX7_tied 25 = .ok (.iadd, 1) := by decide +kernel
theorem dX7_tied_26 : decode cX7_tied 26 = .ok (.istore_n 1, 1) := by decide +kernel
theorem dX7_tied_27 : decode cX7_tied 27 = .ok (.iinc 2 1, 3) := by decide +kernel
theorem dX7_tied_30 : decode cX7_tied 30 = .ok (.goto (-26), 3) := by decide +kernel
theorem dX7_tied_33 : decode cX7_tied 33 = .ok (.iload_n 1, 1) := by decide +kernel
theorem dX7_tied_34 : decode cX7_tied 34 = .ok (.ireturn, 1) := by decide +kernel
set_option maxRecDepth 20000 in
theorem ggX7_highest_X7_rises : GoodIn wsX7_highest wsX7_rises := goodIn_r _ [6, 1, 7, 8, 9, 5, 10, 11, 12, 13, 14, 15, 16, 17, 18, 19, 20, 21, 22, 23, 24, 25, 26, 27, 28, 29, 30, 31, 32, 33, 34, 35, 36, 37, 38, 39, 40, 41, 42] (by decide +kernel) (by decide +kernel)
set_option maxRecDepth 20000 in
theorem gX7_highest_X7_rises : GoodIn wsX7_highest (wsV RX7 48 RX7 yX7_rises wsX7_rises) := goodIn_app (goodIn_of _ (by decide +kernel)) ggX7_highest_X7_rises
theorem dX7_highest_0 : decode cX7_highest 0 = .ok (.aload_n 0, 1) := by decide +kernel
theorem dX7_highest_1 : decode cX7_highest 1 = .ok (.iconst 0, 1) := by decide +kernel
theorem dX7_highest_2 : decode cX7_highest 2 = .ok (.invokevirtual 48, 3) := by decide +kernel
theorem dX7_highest_5 : decode cX7_highest 5 = .ok (.iconst 0, 1) := by decide +kernel
theorem dX7_highest_6 : decode cX7_highest 6 = .ok (.istore_n 1, 1) := by decide +kernel
theorem dX7_highest_7 : decode cX7_highest 7 = .ok (.iconst 1, 1) := by decide +kernel
theorem dX7_highest_8 : decode cX7_highest 8 = .ok (.istore_n 2, 1) := by decide +kernel
theorem dX7_highest_9 : decode cX7_highest 9 = .ok (.iload_n 2, 1) := by decide +kernel
theorem dX7_highest_10 : decode cX7_highest 10 = .ok (.bipush 8, 2) := by decide +kernel
theorem dX7_highest_12 : decode cX7_highest 12 = .ok (.if_icmp .ge 30, 3) := by decide +kernel
theorem dX7_highest_15 : decode cX7_highest 15 = .ok (.aload_n 0, 1) := by decide +kernel
theorem dX7_highest_16 : decode cX7_highest 16 = .ok (.getfield 16, 3) := by decide +kernel
theorem dX7_highest_19 : decode cX7_highest 19 = .ok (.iload_n 2, 1) := by decide +kernel
theorem dX7_highest_20 : decode cX7_highest 20 = .ok (.iaload, 1) := by decide +kernel
theorem dX7_highest_21 : decode cX7_highest 21 = .ok (.aload_n 0, 1) := by decide +kernel
theorem dX7_highest_22 : decode cX7_highest 22 = .ok (.getfield 16, 3) := by decide +kernel
theorem dX7_highest_25 : decode cX7_highest 25 = .ok (.iload_n 1, 1) := by decide +kernel
theorem dX7_highest_26 : decode cX7_highest 26 = .ok (.iaload, 1) := by decide +kernel
theorem dX7_highest_27 : decode cX7_highest 27 = .ok (.if_icmp .le 7, 3) := by decide +kernel
theorem dX7_highest_30 : decode cX7_highest 30 = .ok (.iload_n 2, 1) := by decide +kernel
theorem dX7_highest_31 : decode cX7_highest 31 = .ok (.goto 4, 3) := by decide +kernel
theorem dX7_highest_34 : decode cX7_highest 34 = .ok (.iload_n 1, 1) := by decide +kernel
theorem dX7_highest_35 : decode cX7_highest 35 = .ok (.istore_n 1, 1) := by decide +kernel
theorem dX7_highest_36 : decode cX7_highest 36 = .ok (.iinc 2 1, 3) := by decide +kernel
theorem dX7_highest_39 : decode cX7_highest 39 = .ok (.goto (-30), 3) := by decide +kernel
theorem dX7_highest_42 : decode cX7_highest 42 = .ok (.iload_n 1, 1) := by decide +kernel
theorem dX7_highest_43 : decode cX7_highest 43 = .ok (.ireturn, 1) := by decide +kernel
set_option maxRecDepth 20000 in
theorem ggX7_grounded_X7_rises : GoodIn wsX7_grounded wsX7_rises := goodIn_r _ [6, 1, 7, 8, 9, 5, 10, 11, 12, 13, 14, 15, 16, 17, 18, 19, 20, 21, 22, 23, 24, 25, 26, 27, 28, 29, 30, 31, 32, 33, 34, 35, 36, 37, 38, 39, 40, 41, 42] (by decide +kernel) (by decide +kernel)
set_option maxRecDepth 20000 in
theorem gX7_grounded_X7_rises : GoodIn wsX7_grounded (wsV RX7 48 RX7 yX7_rises wsX7_rises) := goodIn_app (goodIn_of _ (by decide +kernel)) ggX7_grounded_X7_rises
theorem dX7_grounded_0 : decode cX7_grounded 0 = .ok (.aload_n 0, 1) := by decide +kernel
theorem dX7_grounded_1 : decode cX7_grounded 1 = .ok (.iconst 0, 1) := by decide +kernel
theorem dX7_grounded_2 : decode cX7_grounded 2 = .ok (.invokevirtual 48, 3) := by decide +kernel
theorem dX7_grounded_5 : decode cX7_grounded 5 = .ok (.iconst 0, 1) := by decide +kernel
theorem dX7_grounded_6 : decode cX7_grounded 6 = .ok (.istore_n 1, 1) := by decide +kernel
theorem dX7_grounded_7 : decode cX7_grounded 7 = .ok (.iconst 0, 1) := by decide +kernel
theorem dX7_grounded_8 : decode cX7_grounded 8 = .ok (.istore_n 2, 1) := by decide +kernel
theorem dX7_grounded_9 : decode cX7_grounded 9 = .ok (.iload_n 2, 1) := by decide +kernel
theorem dX7_grounded_10 : decode cX7_grounded 10 = .ok (.bipush 8, 2) := by decide +kernel
theorem dX7_grounded_12 : decode cX7_grounded 12 = .ok (.if_icmp .ge 26, 3) := by decide +kernel
theorem dX7_grounded_15 : decode cX7_grounded 15 = .ok (.iload_n 1, 1) := by decide +kernel
theorem dX7_grounded_16 : decode cX7_grounded 16 = .ok (.aload_n 0, 1) := by decide +kernel
theorem dX7_grounded_17 : decode cX7_grounded 17 = .ok (.getfield 16, 3) := by decide +kernel
theorem dX7_grounded_20 : decode cX7_grounded 20 = .ok (.iload_n 2, 1) := by decide +kernel
theorem dX7_grounded_21 : decode cX7_grounded 21 = .ok (.iaload, 1) := by decide +kernel
theorem dX7_grounded_22 : decode cX7_grounded 22 = .ok (.ifCond .ne 7, 3) := by decide +kernel
theorem dX7_grounded_25 : decode cX7_grounded 25 = .ok (.iconst 1, 1) := by decide +kernel
theorem dX7_grounded_26 : decode cX7_grounded 26 = .ok (.goto 4, 3) := by decide +kernel
theorem dX7_grounded_29 : decode cX7_grounded 29 = .ok (.iconst 0, 1) := by decide +kernel
theorem dX7_grounded_30 : decode cX7_grounded 30 = .ok (.iadd, 1) := by decide +kernel
theorem dX7_grounded_31 : decode cX7_grounded 31 = .ok (.istore_n 1, 1) := by decide +kernel
theorem dX7_grounded_32 : decode cX7_grounded 32 = .ok (.iinc 2 1, 3) := by decide +kernel
theorem dX7_grounded_35 : decode cX7_grounded 35 = .ok (.goto (-26), 3) := by decide +kernel
theorem dX7_grounded_38 : decode cX7_grounded 38 = .ok (.iload_n 1, 1) := by decide +kernel
theorem dX7_grounded_39 : decode cX7_grounded 39 = .ok (.ireturn, 1) := by decide +kernel
set_option maxRecDepth 20000 in
theorem ggX7_counted_X7_allGas : GoodIn wsX7_counted wsX7_allGas := goodIn_r _ [7, 8, 9, 10, 6, 11, 1, 52, 53, 54, 55, 56, 57, 58, 59, 60, 61, 62, 63] (by decide +kernel) (by decide +kernel)
set_option maxRecDepth 20000 in
theorem gX7_counted_X7_allGas : GoodIn wsX7_counted (wsV RX7 203 RX7 yX7_allGas wsX7_allGas) := goodIn_app (goodIn_of _ (by decide +kernel)) ggX7_counted_X7_allGas
set_option maxRecDepth 20000 in
theorem ggX7_counted_X7_tied : GoodIn wsX7_counted wsX7_tied := goodIn_r _ [15, 16, 17, 18, 6, 19, 1, 52, 53, 54, 55, 56, 57, 58, 59, 60, 61, 62, 63] (by decide +kernel) (by decide +kernel)
set_option maxRecDepth 20000 in
theorem gX7_counted_X7_tied : GoodIn wsX7_counted (wsV RX7 206 RX7 yX7_tied wsX7_tied) := goodIn_app (goodIn_of _ (by decide +kernel)) ggX7_counted_X7_tied
set_option maxRecDepth 20000 in
theorem ggX7_counted_X7_allHeights : GoodIn wsX7_counted wsX7_allHeights := goodIn_r _ [23, 24, 25, 26, 27, 6, 28, 29, 30, 31, 32, 33, 34, 35, 36, 8, 9, 10, 11, 1, 16, 17, 18, 19, 37, 38, 39, 40, 41, 42, 43, 52, 53, 54, 55, 56, 57, 58, 59, 60, 61, 62, 63] (by decide +kernel) (by decide +kernel)
set_option maxRecDepth 20000 in
theorem gX7_counted_X7_allHeights : GoodIn wsX7_counted (wsV RX7 72 RX7 yX7_allHeights wsX7_allHeights) := goodIn_app (goodIn_of _ (by decide +kernel)) ggX7_counted_X7_allHeights
set_option maxRecDepth 20000 in
theorem ggX7_counted_X7_highest : GoodIn wsX7_counted wsX7_highest := goodIn_r _ [47, 24, 25, 26, 27, 6, 28, 29, 30, 31, 32, 33, 34, 35, 36, 8, 9, 10, 11, 1, 16, 17, 18, 19, 37, 38, 39, 40, 41, 42, 43, 52, 53, 54, 55, 56, 57, 58, 59, 60, 61, 62, 63] (by decide +kernel) (by decide +kernel)
set_option maxRecDepth 20000 in
theorem gX7_counted_X7_highest : GoodIn wsX7_counted (wsV RX7 209 RX7 yX7_highest wsX7_highest) := goodIn_app (goodIn_of _ (by decide +kernel)) ggX7_counted_X7_highest
set_option maxRecDepth 20000 in
theorem ggX7_counted_X7_grounded : GoodIn wsX7_counted wsX7_grounded := goodIn_r _ [51, 24, 25, 26, 27, 6, 28, 29, 30, 31, 32, 33, 34, 35, 36, 8, 9, 10, 11, 1, 16, 17, 18, 19, 37, 38, 39, 40, 41, 42, 43, 52, 53, 54, 55, 56, 57, 58, 59, 60, 61, 62, 63] (by decide +kernel) (by decide +kernel)
set_option maxRecDepth 20000 in
theorem gX7_counted_X7_grounded : GoodIn wsX7_counted (wsV RX7 212 RX7 yX7_grounded wsX7_grounded) := goodIn_app (goodIn_of _ (by decide +kernel)) ggX7_counted_X7_grounded
theorem dX7_counted_0 : decode cX7_counted 0 = .ok (.iload_n 1, 1) := by decide +kernel
theorem dX7_counted_1 : decode cX7_counted 1 = .ok (.tableswitch 168 0 14 #[75, 82, 87, 168, 168, 168, 112, 117, 124, 132, 138, 143, 148, 155, 163], 75) := by decide +kernel
theorem dX7_counted_76 : decode cX7_counted 76 = .ok (.aload_n 0, 1) := by decide +kernel
theorem dX7_counted_77 : decode cX7_counted 77 = .ok (.getfield 7, 3) := by decide +kernel
theorem dX7_counted_80 : decode cX7_counted 80 = .ok (.iconst 0, 1) := by decide +kernel
theorem dX7_counted_81 : decode cX7_counted 81 = .ok (.iaload, 1) := by decide +kernel
theorem dX7_counted_82 : decode cX7_counted 82 = .ok (.ireturn, 1) := by decide +kernel
theorem dX7_counted_83 : decode cX7_counted 83 = .ok (.aload_n 0, 1) := by decide +kernel
theorem dX7_counted_84 : decode cX7_counted 84 = .ok (.invokevirtual 203, 3) := by decide +kernel
theorem dX7_counted_87 : decode cX7_counted 87 = .ok (.ireturn, 1) := by decide +kernel
theorem dX7_counted_88 : decode cX7_counted 88 = .ok (.sipush 480, 3) := by decide +kernel
theorem dX7_counted_91 : decode cX7_counted 91 = .ok (.aload_n 0, 1) := by decide +kernel
theorem dX7_counted_92 : decode cX7_counted 92 = .ok (.getfield 7, 3) := by decide +kernel
theorem dX7_counted_95 : decode cX7_counted 95 = .ok (.iconst 1, 1) := by decide +kernel
theorem dX7_counted_96 : decode cX7_counted 96 = .ok (.iaload, 1) := by decide +kernel
theorem dX7_counted_97 : decode cX7_counted 97 = .ok (.iadd, 1) := by decide +kernel
theorem dX7_counted_98 : decode cX7_counted 98 = .ok (.aload_n 0, 1) := by decide +kernel
theorem dX7_counted_99 : decode cX7_counted 99 = .ok (.getfield 7, 3) := by decide +kernel
theorem dX7_counted_102 : decode cX7_counted 102 = .ok (.iconst 2, 1) := by decide +kernel
theorem dX7_counted_103 : decode cX7_counted 103 = .ok (.iaload, 1) := by decide +kernel
theorem dX7_counted_104 : decode cX7_counted 104 = .ok (.isub, 1) := by decide +kernel
theorem dX7_counted_105 : decode cX7_counted 105 = .ok (.aload_n 0, 1) := by decide +kernel
theorem dX7_counted_106 : decode cX7_counted 106 = .ok (.getfield 7, 3) := by decide +kernel
theorem dX7_counted_109 : decode cX7_counted 109 = .ok (.iconst 3, 1) := by decide +kernel
theorem dX7_counted_110 : decode cX7_counted 110 = .ok (.iaload, 1) := by decide +kernel
theorem dX7_counted_111 : decode cX7_counted 111 = .ok (.isub, 1) := by decide +kernel
theorem dX7_counted_112 : decode cX7_counted 112 = .ok (.ireturn, 1) := by decide +kernel
theorem dX7_counted_113 : decode cX7_counted 113 = .ok (.aload_n 0, 1) := by decide +kernel
theorem dX7_counted_114 : decode cX7_counted 114 = .ok (.invokevirtual 206, 3) := by decide +kernel
theorem dX7_counted_117 : decode cX7_counted 117 = .ok (.ireturn, 1) := by decide +kernel
theorem dX7_counted_118 : decode cX7_counted 118 = .ok (.aload_n 0, 1) := by decide +kernel
theorem dX7_counted_119 : decode cX7_counted 119 = .ok (.getfield 7, 3) := by decide +kernel
theorem dX7_counted_122 : decode cX7_counted 122 = .ok (.iconst 4, 1) := by decide +kernel
theorem dX7_counted_123 : decode cX7_counted 123 = .ok (.iaload, 1) := by decide +kernel
theorem dX7_counted_124 : decode cX7_counted 124 = .ok (.ireturn, 1) := by decide +kernel
theorem dX7_counted_125 : decode cX7_counted 125 = .ok (.bipush 8, 2) := by decide +kernel
theorem dX7_counted_127 : decode cX7_counted 127 = .ok (.aload_n 0, 1) := by decide +kernel
theorem dX7_counted_128 : decode cX7_counted 128 = .ok (.invokevirtual 206, 3) := by decide +kernel
theorem dX7_counted_131 : decode cX7_counted 131 = .ok (.isub, 1) := by decide +kernel
theorem dX7_counted_132 : decode cX7_counted 132 = .ok (.ireturn, 1) := by decide +kernel
theorem dX7_counted_133 : decode cX7_counted 133 = .ok (.aload_n 0, 1) := by decide +kernel
theorem dX7_counted_134 : decode cX7_counted 134 = .ok (.iconst 0, 1) := by decide +kernel
theorem dX7_counted_135 : decode cX7_counted 135 = .ok (.invokevirtual 72, 3) := by decide +kernel
theorem dX7_counted_138 : decode cX7_counted 138 = .ok (.ireturn, 1) := by decide +kernel
theorem dX7_counted_139 : decode cX7_counted 139 = .ok (.aload_n 0, 1) := by decide +kernel
theorem dX7_counted_140 : decode cX7_counted 140 = .ok (.invokevirtual 209, 3) := by decide +kernel
theorem dX7_counted_143 : decode cX7_counted 143 = .ok (.ireturn, 1) := by decide +kernel
theorem dX7_counted_144 : decode cX7_counted 144 = .ok (.aload_n 0, 1) := by decide +kernel
theorem dX7_counted_145 : decode cX7_counted 145 = .ok (.invokevirtual 212, 3) := by decide +kernel
theorem dX7_counted_148 : decode cX7_counted 148 = .ok (.ireturn, 1) := by decide +kernel
theorem dX7_counted_149 : decode cX7_counted 149 = .ok (.aload_n 0, 1) := by decide +kernel
theorem dX7_counted_150 : decode cX7_counted 150 = .ok (.getfield 7, 3) := by decide +kernel
theorem dX7_counted_153 : decode cX7_counted 153 = .ok (.iconst 5, 1) := by decide +kernel
theorem dX7_counted_154 : decode cX7_counted 154 = .ok (.iaload, 1) := by decide +kernel
theorem dX7_counted_155 : decode cX7_counted 155 = .ok (.ireturn, 1) := by decide +kernel
theorem dX7_counted_156 : decode cX7_counted 156 = .ok (.aload_n 0, 1) := by decide +kernel
theorem dX7_counted_157 : decode cX7_counted 157 = .ok (.getfield 7, 3) := by decide +kernel
theorem dX7_counted_160 : decode cX7_counted 160 = .ok (.bipush 8, 2) := by decide +kernel
theorem dX7_counted_162 : decode cX7_counted 162 = .ok (.iaload, 1) := by decide +kernel
theorem dX7_counted_163 : decode cX7_counted 163 = .ok (.ireturn, 1) := by decide +kernel
theorem dX7_counted_164 : decode cX7_counted 164 = .ok (.aload_n 0, 1) := by decide +kernel
theorem dX7_counted_165 : decode cX7_counted 165 = .ok (.getfield 78, 3) := by decide +kernel
theorem dX7_counted_168 : decode cX7_counted 168 = .ok (.ireturn, 1) := by decide +kernel
theorem dX7_counted_169 : decode cX7_counted 169 = .ok (.aload_n 0, 1) := by decide +kernel
theorem dX7_counted_170 : decode cX7_counted 170 = .ok (.getfield 7, 3) := by decide +kernel
theorem dX7_counted_173 : decode cX7_counted 173 = .ok (.iconst 1, 1) := by decide +kernel
theorem dX7_counted_174 : decode cX7_counted 174 = .ok (.iload_n 1, 1) := by decide +kernel
theorem dX7_counted_175 : decode cX7_counted 175 = .ok (.iadd, 1) := by decide +kernel
theorem dX7_counted_176 : decode cX7_counted 176 = .ok (.iconst 3, 1) := by decide +kernel
theorem dX7_counted_177 : decode cX7_counted 177 = .ok (.isub, 1) := by decide +kernel
theorem dX7_counted_178 : decode cX7_counted 178 = .ok (.iaload, 1) := by decide +kernel
theorem dX7_counted_179 : decode cX7_counted 179 = .ok (.ireturn, 1) := by decide +kernel
set_option maxRecDepth 20000 in
theorem ggX7_count_X7_in : GoodIn wsX7_count wsX7_in := goodIn_r _ [4] (by decide +kernel) (by decide +kernel)
set_option maxRecDepth 20000 in
theorem gX7_count_X7_in : GoodIn wsX7_count (va_wsS RX7 23 yX7_in wsX7_in) := goodIn_app (goodIn_of _ (by decide +kernel)) ggX7_count_X7_in
set_option maxRecDepth 20000 in
theorem ggX7_count_X7_holds : GoodIn wsX7_count wsX7_holds := goodIn_r _ [8, 9, 64, 65, 66, 67, 68, 69, 70, 71, 72, 73, 74, 75] (by decide +kernel) (by decide +kernel)
set_option maxRecDepth 20000 in
theorem gX7_count_X7_holds : GoodIn wsX7_count (wsV RX7 98 RX7 yX7_holds wsX7_holds) := goodIn_app (goodIn_of _ (by decide +kernel)) ggX7_count_X7_holds
set_option maxRecDepth 20000 in
theorem ggX7_count_X7_counted : GoodIn wsX7_count wsX7_counted := goodIn_r _ [13, 14, 15, 16, 17, 18, 3, 19, 20, 21, 22, 23, 24, 25, 26, 27, 28, 29, 30, 31, 32, 33, 34, 35, 36, 37, 38, 39, 40, 41, 42, 43, 44, 45, 46, 47, 48, 49, 50, 51, 52, 53, 54, 55, 56, 57, 58, 59, 60, 61, 62, 63, 64, 65, 66, 67, 68, 69, 70, 71, 72, 73, 74, 75] (by decide +kernel) (by decide +kernel)
set_option maxRecDepth 20000 in
theorem gX7_count_X7_counted : GoodIn wsX7_count (wsV RX7 215 RX7 yX7_counted wsX7_counted) := goodIn_app (goodIn_of _ (by decide +kernel)) ggX7_count_X7_counted
theorem dX7_count_0 : decode cX7_count 0 = .ok (.aload_n 0, 1) := by decide +kernel
theorem dX7_count_1 : decode cX7_count 1 = .ok (.iload_n 1, 1) := by decide +kernel
theorem dX7_count_2 : decode cX7_count 2 = .ok (.iconst 0, 1) := by decide +kernel
theorem dX7_count_3 : decode cX7_count 3 = .ok (.bipush 14, 2) := by decide +kernel
theorem dX7_count_5 : decode cX7_count 5 = .ok (.invokestatic 23, 3) := by decide +kernel
theorem dX7_count_8 : decode cX7_count 8 = .ok (.ifCond .eq 7, 3) := by decide +kernel
theorem dX7_count_11 : decode cX7_count 11 = .ok (.iconst 0, 1) := by decide +kernel
theorem dX7_count_12 : decode cX7_count 12 = .ok (.goto 4, 3) := by decide +kernel
theorem dX7_count_15 : decode cX7_count 15 = .ok (.iconst 1, 1) := by decide +kernel
theorem dX7_count_16 : decode cX7_count 16 = .ok (.invokevirtual 98, 3) := by decide +kernel
theorem dX7_count_19 : decode cX7_count 19 = .ok (.ifCond .eq 11, 3) := by decide +kernel
theorem dX7_count_22 : decode cX7_count 22 = .ok (.aload_n 0, 1) := by decide +kernel
theorem dX7_count_23 : decode cX7_count 23 = .ok (.iload_n 1, 1) := by decide +kernel
theorem dX7_count_24 : decode cX7_count 24 = .ok (.invokevirtual 215, 3) := by decide +kernel
theorem dX7_count_27 : decode cX7_count 27 = .ok (.goto 4, 3) := by decide +kernel
theorem dX7_count_30 : decode cX7_count 30 = .ok (.iconst 0, 1) := by decide +kernel
theorem dX7_count_31 : decode cX7_count 31 = .ok (.ireturn, 1) := by decide +kernel
set_option maxRecDepth 20000 in
theorem ggX7_reason_X7_noFill : GoodIn wsX7_reason wsX7_noFill := goodIn_r _ [5, 6, 7, 8, 4, 9, 10, 11, 12, 13, 14, 15, 16, 17, 18, 19, 20, 21, 22, 23, 24, 25, 26, 27, 28, 29, 30, 31, 32, 33, 34, 35, 36, 37, 38, 62, 63, 64, 65, 66, 67, 68, 69, 70, 71, 72, 73] (by decide +kernel) (by decide +kernel)
set_option maxRecDepth 20000 in
theorem gX7_reason_X7_noFill : GoodIn wsX7_reason (wsV RX7 95 RX7 yX7_noFill wsX7_noFill) := goodIn_app (goodIn_of _ (by decide +kernel)) ggX7_reason_X7_noFill
set_option maxRecDepth 20000 in
theorem ggX7_reason_X7_noVent : GoodIn wsX7_reason wsX7_noVent := goodIn_r _ [42, 6, 7, 8, 4, 9, 10, 62, 63, 64, 65, 66, 67, 68, 69, 70, 71, 72, 73] (by decide +kernel) (by decide +kernel)
set_option maxRecDepth 20000 in
theorem gX7_reason_X7_noVent : GoodIn wsX7_reason (wsV RX7 104 RX7 yX7_noVent wsX7_noVent) := goodIn_app (goodIn_of _ (by decide +kernel)) ggX7_reason_X7_noVent
set_option maxRecDepth 20000 in
theorem ggX7_reason_X7_noDrop : GoodIn wsX7_reason wsX7_noDrop := goodIn_r _ [46, 6, 7, 8, 4, 9, 10, 62, 63, 64, 65, 66, 67, 68, 69, 70, 71, 72, 73] (by decide +kernel) (by decide +kernel)
set_option maxRecDepth 20000 in
theorem gX7_reason_X7_noDrop : GoodIn wsX7_reason (wsV RX7 110 RX7 yX7_noDrop wsX7_noDrop) := goodIn_app (goodIn_of _ (by decide +kernel)) ggX7_reason_X7_noDrop
set_option maxRecDepth 20000 in
theorem ggX7_reason_X7_noPut : GoodIn wsX7_reason wsX7_noPut := goodIn_r _ [50, 6, 7, 8, 4, 9, 10, 11, 12, 13, 14, 15, 16, 17, 18, 19, 20, 21, 22, 23, 24, 25, 26, 27, 28, 29, 30, 31, 32, 33, 34, 35, 36, 37, 38, 62, 63, 64, 65, 66, 67, 68, 69, 70, 71, 72, 73] (by decide +kernel) (by decide +kernel)
set_option maxRecDepth 20000 in
theorem gX7_reason_X7_noPut : GoodIn wsX7_reason (wsV RX7 116 RX7 yX7_noPut wsX7_noPut) := goodIn_app (goodIn_of _ (by decide +kernel)) ggX7_reason_X7_noPut
set_option maxRecDepth 20000 in
theorem ggX7_reason_X7_noTie : GoodIn wsX7_reason wsX7_noTie := goodIn_r _ [54, 15, 28, 29, 30, 4, 31, 10, 16, 17, 18, 19, 20, 21, 22, 23, 24, 25, 26, 27, 6, 7, 8, 9, 32, 33, 34, 35, 36, 37, 38, 55, 56, 57, 62, 63, 64, 65, 66, 67, 68, 69, 70, 71, 72, 73] (by decide +kernel) (by decide +kernel)
set_option maxRecDepth 20000 in
theorem gX7_reason_X7_noTie : GoodIn wsX7_reason (wsV RX7 134 RX7 yX7_noTie wsX7_noTie) := goodIn_app (goodIn_of _ (by decide +kernel)) ggX7_reason_X7_noTie
set_option maxRecDepth 20000 in
theorem ggX7_reason_X7_noCut : GoodIn wsX7_reason wsX7_noCut := goodIn_r _ [61, 28, 29, 30, 4, 31, 10, 62, 63, 64, 65, 66, 67, 68, 69, 70, 71, 72, 73] (by decide +kernel) (by decide +kernel)
set_option maxRecDepth 20000 in
theorem gX7_reason_X7_noCut : GoodIn wsX7_reason (wsV RX7 140 RX7 yX7_noCut wsX7_noCut) := goodIn_app (goodIn_of _ (by decide +kernel)) ggX7_reason_X7_noCut
theorem dX7_reason_0 : decode cX7_reason 0 = .ok (.iload_n 2, 1) := by decide +kernel
theorem dX7_reason_1 : decode cX7_reason 1 = .ok (.tableswitch 69 0 4 #[35, 42, 49, 55, 61], 35) := by decide +kernel
theorem dX7_reason_36 : decode cX7_reason 36 = .ok (.aload_n 0, 1) := by decide +kernel
theorem dX7_reason_37 : decode cX7_reason 37 = .ok (.iload_n 1, 1) := by decide +kernel
theorem dX7_reason_38 : decode cX7_reason 38 = .ok (.iconst 1, 1) := by decide +kernel
theorem dX7_reason_39 : decode cX7_reason 39 = .ok (.invokevirtual 95, 3) := by decide +kernel
theorem dX7_reason_42 : decode cX7_reason 42 = .ok (.ireturn, 1) := by decide +kernel
theorem dX7_reason_43 : decode cX7_reason 43 = .ok (.aload_n 0, 1) := by decide +kernel
theorem dX7_reason_44 : decode cX7_reason 44 = .ok (.iload_n 1, 1) := by decide +kernel
theorem dX7_reason_45 : decode cX7_reason 45 = .ok (.iconst 1, 1) := by decide +kernel
theorem dX7_reason_46 : decode cX7_reason 46 = .ok (.invokevirtual 104, 3) := by decide +kernel
theorem dX7_reason_49 : decode cX7_reason 49 = .ok (.ireturn, 1) := by decide +kernel
theorem dX7_reason_50 : decode cX7_reason 50 = .ok (.aload_n 0, 1) := by decide +kernel
theorem dX7_reason_51 : decode cX7_reason 51 = .ok (.iload_n 1, 1) := by decide +kernel
theorem dX7_reason_52 : decode cX7_reason 52 = .ok (.invokevirtual 110, 3) := by decide +kernel
theorem dX7_reason_55 : decode cX7_reason 55 = .ok (.ireturn, 1) := by decide +kernel
theorem dX7_reason_56 : decode cX7_reason 56 = .ok (.aload_n 0, 1) := by decide +kernel
theorem dX7_reason_57 : decode cX7_reason 57 = .ok (.iload_n 1, 1) := by decide +kernel
theorem dX7_reason_58 : decode cX7_reason 58 = .ok (.invokevirtual 116, 3) := by decide +kernel
theorem dX7_reason_61 : decode cX7_reason 61 = .ok (.ireturn, 1) := by decide +kernel
theorem dX7_reason_62 : decode cX7_reason 62 = .ok (.aload_n 0, 1) := by decide +kernel
theorem dX7_reason_63 : decode cX7_reason 63 = .ok (.iload_n 1, 1) := by decide +kernel
theorem dX7_reason_64 : decode cX7_reason 64 = .ok (.bipush 100, 2) := by decide +kernel
theorem dX7_reason_66 : decode cX7_reason 66 = .ok (.invokevirtual 134, 3) := by decide +kernel
theorem dX7_reason_69 : decode cX7_reason 69 = .ok (.ireturn, 1) := by decide +kernel
theorem dX7_reason_70 : decode cX7_reason 70 = .ok (.aload_n 0, 1) := by decide +kernel
theorem dX7_reason_71 : decode cX7_reason 71 = .ok (.iload_n 1, 1) := by decide +kernel
theorem dX7_reason_72 : decode cX7_reason 72 = .ok (.invokevirtual 140, 3) := by decide +kernel
theorem dX7_reason_75 : decode cX7_reason 75 = .ok (.ireturn, 1) := by decide +kernel
set_option maxRecDepth 20000 in
theorem ggX7_why_X7_isBalloon : GoodIn wsX7_why wsX7_isBalloon := goodIn_r _ [4, 5, 6, 3, 7] (by decide +kernel) (by decide +kernel)
set_option maxRecDepth 20000 in
theorem gX7_why_X7_isBalloon : GoodIn wsX7_why (va_wsS RX7 88 yX7_isBalloon wsX7_isBalloon) := goodIn_app (goodIn_of _ (by decide +kernel)) ggX7_why_X7_isBalloon
set_option maxRecDepth 20000 in
theorem ggX7_why_X7_isRibbon : GoodIn wsX7_why wsX7_isRibbon := goodIn_r _ [10, 5, 6, 3, 7] (by decide +kernel) (by decide +kernel)
set_option maxRecDepth 20000 in
theorem gX7_why_X7_isRibbon : GoodIn wsX7_why (va_wsS RX7 131 yX7_isRibbon wsX7_isRibbon) := goodIn_app (goodIn_of _ (by decide +kernel)) ggX7_why_X7_isRibbon
set_option maxRecDepth 20000 in
theorem ggX7_why_X7_in : GoodIn wsX7_why wsX7_in := goodIn_r _ [7] (by decide +kernel) (by decide +kernel)
set_option maxRecDepth 20000 in
theorem gX7_why_X7_in : GoodIn wsX7_why (va_wsS RX7 23 yX7_in wsX7_in) := goodIn_app (goodIn_of _ (by decide +kernel)) ggX7_why_X7_in
set_option maxRecDepth 20000 in
theorem ggX7_why_X7_holds : GoodIn wsX7_why wsX7_holds := goodIn_r _ [14, 15, 77, 78, 79, 80, 81, 82, 83, 84, 85, 86, 87, 88] (by decide +kernel) (by decide +kernel)
set_option maxRecDepth 20000 in
theorem gX7_why_X7_holds : GoodIn wsX7_why (wsV RX7 98 RX7 yX7_holds wsX7_holds) := goodIn_app (goodIn_of _ (by decide +kernel)) ggX7_why_X7_holds
set_option maxRecDepth 20000 in
theorem ggX7_why_X7_reason : GoodIn wsX7_why wsX7_reason := goodIn_r _ [19, 20, 21, 22, 3, 23, 24, 25, 26, 27, 28, 29, 30, 31, 32, 33, 34, 35, 36, 37, 38, 39, 40, 41, 42, 43, 44, 45, 46, 47, 48, 49, 50, 51, 52, 53, 54, 55, 56, 57, 58, 59, 60, 61, 62, 63, 64, 65, 66, 67, 68, 69, 70, 71, 72, 5, 6, 7, 73, 74, 75, 76, 77, 78, 79, 80, 81, 82, 83, 84, 85, 86, 87, 88] (by decide +kernel) (by decide +kernel)
set_option maxRecDepth 20000 in
theorem gX7_why_X7_reason : GoodIn wsX7_why (wsV RX7 218 RX7 yX7_reason wsX7_reason) := goodIn_app (goodIn_of _ (by decide +kernel)) ggX7_why_X7_reason
theorem dX7_why_0 : decode cX7_why 0 = .ok (.iload_n 1, 1) := by decide +kernel
theorem dX7_why_1 : decode cX7_why 1 = .ok (.invokestatic 88, 3) := by decide +kernel
theorem dX7_why_4 : decode cX7_why 4 = .ok (.ifCond .eq 23, 3) := by decide +kernel
theorem dX7_why_7 : decode cX7_why 7 = .ok (.iload_n 1, 1) := by decide +kernel
theorem dX7_why_8 : decode cX7_why 8 = .ok (.invokestatic 131, 3) := by decide +kernel
theorem dX7_why_11 : decode cX7_why 11 = .ok (.ifCond .ne 12, 3) := by decide +kernel
theorem dX7_why_14 : decode cX7_why 14 = .ok (.iload_n 2, 1) := by decide +kernel
theorem dX7_why_15 : decode cX7_why 15 = .ok (.iconst 4, 1) := by decide +kernel
theorem dX7_why_16 : decode cX7_why 16 = .ok (.iconst 5, 1) := by decide +kernel
theorem dX7_why_17 : decode cX7_why 17 = .ok (.invokestatic 23, 3) := by decide +kernel
theorem dX7_why_20 : decode cX7_why 20 = .ok (.ifCond .ne 7, 3) := by decide +kernel
theorem dX7_why_23 : decode cX7_why 23 = .ok (.iconst 1, 1) := by decide +kernel
theorem dX7_why_24 : decode cX7_why 24 = .ok (.goto 4, 3) := by decide +kernel
theorem dX7_why_27 : decode cX7_why 27 = .ok (.iconst 0, 1) := by decide +kernel
theorem dX7_why_28 : decode cX7_why 28 = .ok (.istore_n 3, 1) := by decide +kernel
theorem dX7_why_29 : decode cX7_why 29 = .ok (.aload_n 0, 1) := by decide +kernel
theorem dX7_why_30 : decode cX7_why 30 = .ok (.iload_n 3, 1) := by decide +kernel
theorem dX7_why_31 : decode cX7_why 31 = .ok (.ifCond .ne 7, 3) := by decide +kernel
theorem dX7_why_34 : decode cX7_why 34 = .ok (.iconst 1, 1) := by decide +kernel
theorem dX7_why_35 : decode cX7_why 35 = .ok (.goto 17, 3) := by decide +kernel
theorem dX7_why_38 : decode cX7_why 38 = .ok (.iload_n 2, 1) := by decide +kernel
theorem dX7_why_39 : decode cX7_why 39 = .ok (.iconst 0, 1) := by decide +kernel
theorem dX7_why_40 : decode cX7_why 40 = .ok (.iconst 5, 1) := by decide +kernel
theorem dX7_why_41 : decode cX7_why 41 = .ok (.invokestatic 23, 3) := by decide +kernel
theorem dX7_why_44 : decode cX7_why 44 = .ok (.ifCond .ne 7, 3) := by decide +kernel
theorem dX7_why_47 : decode cX7_why 47 = .ok (.iconst 2, 1) := by decide +kernel
theorem dX7_why_48 : decode cX7_why 48 = .ok (.goto 4, 3) := by decide +kernel
theorem dX7_why_51 : decode cX7_why 51 = .ok (.iconst 0, 1) := by decide +kernel
theorem dX7_why_52 : decode cX7_why 52 = .ok (.invokevirtual 98, 3) := by decide +kernel
theorem dX7_why_55 : decode cX7_why 55 = .ok (.ifCond .eq 12, 3) := by decide +kernel
theorem dX7_why_58 : decode cX7_why 58 = .ok (.aload_n 0, 1) := by decide +kernel
theorem dX7_why_59 : decode cX7_why 59 = .ok (.iload_n 1, 1) := by decide +kernel
theorem dX7_why_60 : decode cX7_why 60 = .ok (.iload_n 2, 1) := by decide +kernel
theorem dX7_why_61 : decode cX7_why 61 = .ok (.invokevirtual 218, 3) := by decide +kernel
theorem dX7_why_64 : decode cX7_why 64 = .ok (.goto 4, 3) := by decide +kernel
theorem dX7_why_67 : decode cX7_why 67 = .ok (.iconst 0, 1) := by decide +kernel
theorem dX7_why_68 : decode cX7_why 68 = .ok (.ireturn, 1) := by decide +kernel
set_option maxRecDepth 20000 in
theorem ggX7_stopped_X7_in : GoodIn wsX7_stopped wsX7_in := goodIn_r _ [5] (by decide +kernel) (by decide +kernel)
set_option maxRecDepth 20000 in
theorem gX7_stopped_X7_in : GoodIn wsX7_stopped (va_wsS RX7 23 yX7_in wsX7_in) := goodIn_app (goodIn_of _ (by decide +kernel)) ggX7_stopped_X7_in
set_option maxRecDepth 20000 in
theorem ggX7_stopped_X7_holds : GoodIn wsX7_stopped wsX7_holds := goodIn_r _ [9, 10, 11, 12, 13, 14, 15, 16, 17, 18, 19, 20, 21, 22] (by decide +kernel) (by decide +kernel)
set_option maxRecDepth 20000 in
theorem gX7_stopped_X7_holds : GoodIn wsX7_stopped (wsV RX7 98 RX7 yX7_holds wsX7_holds) := goodIn_app (goodIn_of _ (by decide +kernel)) ggX7_stopped_X7_holds
theorem dX7_stopped_0 : decode cX7_stopped 0 = .ok (.aload_n 0, 1) := by decide +kernel
theorem dX7_stopped_1 : decode cX7_stopped 1 = .ok (.iload_n 1, 1) := by decide +kernel
theorem dX7_stopped_2 : decode cX7_stopped 2 = .ok (.iconst 0, 1) := by decide +kernel
theorem dX7_stopped_3 : decode cX7_stopped 3 = .ok (.iconst 1, 1) := by decide +kernel
theorem dX7_stopped_4 : decode cX7_stopped 4 = .ok (.invokestatic 23, 3) := by decide +kernel
theorem dX7_stopped_7 : decode cX7_stopped 7 = .ok (.ifCond .eq 7, 3) := by decide +kernel
theorem dX7_stopped_10 : decode cX7_stopped 10 = .ok (.iconst 0, 1) := by decide +kernel
theorem dX7_stopped_11 : decode cX7_stopped 11 = .ok (.goto 4, 3) := by decide +kernel
theorem dX7_stopped_14 : decode cX7_stopped 14 = .ok (.iconst 1, 1) := by decide +kernel
theorem dX7_stopped_15 : decode cX7_stopped 15 = .ok (.invokevirtual 98, 3) := by decide +kernel
theorem dX7_stopped_18 : decode cX7_stopped 18 = .ok (.ifCond .eq 15, 3) := by decide +kernel
theorem dX7_stopped_21 : decode cX7_stopped 21 = .ok (.aload_n 0, 1) := by decide +kernel
theorem dX7_stopped_22 : decode cX7_stopped 22 = .ok (.getfield 7, 3) := by decide +kernel
theorem dX7_stopped_25 : decode cX7_stopped 25 = .ok (.bipush 6, 2) := by decide +kernel
theorem dX7_stopped_27 : decode cX7_stopped 27 = .ok (.iload_n 1, 1) := by decide +kernel
theorem dX7_stopped_28 : decode cX7_stopped 28 = .ok (.iadd, 1) := by decide +kernel
theorem dX7_stopped_29 : decode cX7_stopped 29 = .ok (.iaload, 1) := by decide +kernel
theorem dX7_stopped_30 : decode cX7_stopped 30 = .ok (.goto 4, 3) := by decide +kernel
theorem dX7_stopped_33 : decode cX7_stopped 33 = .ok (.iconst 0, 1) := by decide +kernel
theorem dX7_stopped_34 : decode cX7_stopped 34 = .ok (.ireturn, 1) := by decide +kernel
set_option maxRecDepth 20000 in
theorem ggX7_dropped_X7_of : GoodIn wsX7_dropped wsX7_of := goodIn_r _ [6, 7, 51, 52, 53, 54, 55, 56, 57, 58, 59, 60, 61, 62] (by decide +kernel) (by decide +kernel)
set_option maxRecDepth 20000 in
theorem gX7_dropped_X7_of : GoodIn wsX7_dropped (wsV RX7 27 RX7 yX7_of wsX7_of) := goodIn_app (goodIn_of _ (by decide +kernel)) ggX7_dropped_X7_of
set_option maxRecDepth 20000 in
theorem ggX7_dropped_X7_copies : GoodIn wsX7_dropped wsX7_copies := goodIn_r _ [11, 7, 51, 52, 53, 54, 55, 56, 57, 58, 59, 60, 61, 62] (by decide +kernel) (by decide +kernel)
set_option maxRecDepth 20000 in
theorem gX7_dropped_X7_copies : GoodIn wsX7_dropped (wsV RX7 81 RX7 yX7_copies wsX7_copies) := goodIn_app (goodIn_of _ (by decide +kernel)) ggX7_dropped_X7_copies
set_option maxRecDepth 20000 in
theorem ggX7_dropped_X7_adds : GoodIn wsX7_dropped wsX7_adds := goodIn_r _ [15, 7, 51, 52, 53, 54, 55, 56, 57, 58, 59, 60, 61, 62] (by decide +kernel) (by decide +kernel)
set_option maxRecDepth 20000 in
theorem gX7_dropped_X7_adds : GoodIn wsX7_dropped (wsV RX7 58 RX7 yX7_adds wsX7_adds) := goodIn_app (goodIn_of _ (by decide +kernel)) ggX7_dropped_X7_adds
set_option maxRecDepth 20000 in
theorem ggX7_dropped_X7_allHeights : GoodIn wsX7_dropped wsX7_allHeights := goodIn_r _ [19, 1, 20, 21, 22, 5, 23, 24, 25, 26, 27, 28, 29, 30, 31, 2, 3, 4, 6, 7, 32, 33, 34, 35, 36, 37, 38, 39, 40, 41, 42, 51, 52, 53, 54, 55, 56, 57, 58, 59, 60, 61, 62] (by decide +kernel) (by decide +kernel)
set_option maxRecDepth 20000 in
theorem gX7_dropped_X7_allHeights : GoodIn wsX7_dropped (wsV RX7 72 RX7 yX7_allHeights wsX7_allHeights) := goodIn_app (goodIn_of _ (by decide +kernel)) ggX7_dropped_X7_allHeights
set_option maxRecDepth 20000 in
theorem ggX7_dropped_X7_pull : GoodIn wsX7_dropped wsX7_pull := goodIn_r _ [46, 1, 36, 37, 38, 5, 39, 7, 32, 33, 34, 35, 24, 25, 26, 27, 28, 29, 30, 31, 2, 3, 4, 6, 51, 52, 53, 54, 55, 56, 57, 58, 59, 60, 61, 62] (by decide +kernel) (by decide +kernel)
set_option maxRecDepth 20000 in
theorem gX7_dropped_X7_pull : GoodIn wsX7_dropped (wsV RX7 52 RX7 yX7_pull wsX7_pull) := goodIn_app (goodIn_of _ (by decide +kernel)) ggX7_dropped_X7_pull
set_option maxRecDepth 20000 in
theorem ggX7_dropped_X7_bears : GoodIn wsX7_dropped wsX7_bears := goodIn_r _ [50, 7, 51, 52, 53, 54, 55, 56, 57, 58, 59, 60, 61, 62] (by decide +kernel) (by decide +kernel)
set_option maxRecDepth 20000 in
theorem gX7_dropped_X7_bears : GoodIn wsX7_dropped (wsV RX7 55 RX7 yX7_bears wsX7_bears) := goodIn_app (goodIn_of _ (by decide +kernel)) ggX7_dropped_X7_bears
theorem dX7_dropped_0 : decode cX7_dropped 0 = .ok (.aload_n 0, 1) := by decide +kernel
theorem dX7_dropped_1 : decode cX7_dropped 1 = .ok (.iconst 0, 1) := by decide +kernel
theorem dX7_dropped_2 : decode cX7_dropped 2 = .ok (.iload_n 1, 1) := by decide +kernel
theorem dX7_dropped_3 : decode cX7_dropped 3 = .ok (.iconst 1, 1) := by decide +kernel
theorem dX7_dropped_4 : decode cX7_dropped 4 = .ok (.invokevirtual 27, 3) := by decide +kernel
theorem dX7_dropped_7 : decode cX7_dropped 7 = .ok (.ifCond .ne 7, 3) := by decide +kernel
theorem dX7_dropped_10 : decode cX7_dropped 10 = .ok (.sipush (-1000), 3) := by decide +kernel
theorem dX7_dropped_13 : decode cX7_dropped 13 = .ok (.ireturn, 1) := by decide +kernel
theorem dX7_dropped_14 : decode cX7_dropped 14 = .ok (.aload_n 0, 1) := by decide +kernel
theorem dX7_dropped_15 : decode cX7_dropped 15 = .ok (.iconst 0, 1) := by decide +kernel
theorem dX7_dropped_16 : decode cX7_dropped 16 = .ok (.bipush 8, 2) := by decide +kernel
theorem dX7_dropped_18 : decode cX7_dropped 18 = .ok (.invokevirtual 81, 3) := by decide +kernel
theorem dX7_dropped_21 : decode cX7_dropped 21 = .ok (.aload_n 0, 1) := by decide +kernel
theorem dX7_dropped_22 : decode cX7_dropped 22 = .ok (.sipush 1040, 3) := by decide +kernel
theorem dX7_dropped_25 : decode cX7_dropped 25 = .ok (.iload_n 1, 1) := by decide +kernel
theorem dX7_dropped_26 : decode cX7_dropped 26 = .ok (.iconst 1, 1) := by decide +kernel
theorem dX7_dropped_27 : decode cX7_dropped 27 = .ok (.iconst (-1), 1) := by decide +kernel
theorem dX7_dropped_28 : decode cX7_dropped 28 = .ok (.invokevirtual 58, 3) := by decide +kernel
theorem dX7_dropped_31 : decode cX7_dropped 31 = .ok (.aload_n 0, 1) := by decide +kernel
theorem dX7_dropped_32 : decode cX7_dropped 32 = .ok (.sipush 1040, 3) := by decide +kernel
theorem dX7_dropped_35 : decode cX7_dropped 35 = .ok (.invokevirtual 72, 3) := by decide +kernel
theorem dX7_dropped_38 : decode cX7_dropped 38 = .ok (.istore_n 3, 1) := by decide +kernel
theorem dX7_dropped_39 : decode cX7_dropped 39 = .ok (.iload_n 2, 1) := by decide +kernel
theorem dX7_dropped_40 : decode cX7_dropped 40 = .ok (.iconst 2, 1) := by decide +kernel
theorem dX7_dropped_41 : decode cX7_dropped 41 = .ok (.if_icmp .ge 18, 3) := by decide +kernel
theorem dX7_dropped_44 : decode cX7_dropped 44 = .ok (.iload_n 2, 1) := by decide +kernel
theorem dX7_dropped_45 : decode cX7_dropped 45 = .ok (.ifCond .ne 12, 3) := by decide +kernel
theorem dX7_dropped_48 : decode cX7_dropped 48 = .ok (.aload_n 0, 1) := by decide +kernel
theorem dX7_dropped_49 : decode cX7_dropped 49 = .ok (.getfield 16, 3) := by decide +kernel
theorem dX7_dropped_52 : decode cX7_dropped 52 = .ok (.iload_n 1, 1) := by decide +kernel
theorem dX7_dropped_53 : decode cX7_dropped 53 = .ok (.iaload, 1) := by decide +kernel
theorem dX7_dropped_54 : decode cX7_dropped 54 = .ok (.goto 4, 3) := by decide +kernel
theorem dX7_dropped_57 : decode cX7_dropped 57 = .ok (.iload_n 3, 1) := by decide +kernel
theorem dX7_dropped_58 : decode cX7_dropped 58 = .ok (.ireturn, 1) := by decide +kernel
theorem dX7_dropped_59 : decode cX7_dropped 59 = .ok (.iconst 0, 1) := by decide +kernel
theorem dX7_dropped_60 : decode cX7_dropped 60 = .ok (.istore 4, 2) := by decide +kernel
theorem dX7_dropped_62 : decode cX7_dropped 62 = .ok (.iconst 0, 1) := by decide +kernel
theorem dX7_dropped_63 : decode cX7_dropped 63 = .ok (.istore 5, 2) := by decide +kernel
theorem dX7_dropped_65 : decode cX7_dropped 65 = .ok (.iload 5, 2) := by decide +kernel
theorem dX7_dropped_67 : decode cX7_dropped 67 = .ok (.bipush 7, 2) := by decide +kernel
theorem dX7_dropped_69 : decode cX7_dropped 69 = .ok (.if_icmp .ge 40, 3) := by decide +kernel
theorem dX7_dropped_72 : decode cX7_dropped 72 = .ok (.iload 4, 2) := by decide +kernel
theorem dX7_dropped_74 : decode cX7_dropped 74 = .ok (.aload_n 0, 1) := by decide +kernel
theorem dX7_dropped_75 : decode cX7_dropped 75 = .ok (.sipush 1040, 3) := by decide +kernel
theorem dX7_dropped_78 : decode cX7_dropped 78 = .ok (.iload 5, 2) := by decide +kernel
theorem dX7_dropped_80 : decode cX7_dropped 80 = .ok (.invokevirtual 52, 3) := by decide +kernel
theorem dX7_dropped_83 : decode cX7_dropped 83 = .ok (.aload_n 0, 1) := by decide +kernel
theorem dX7_dropped_84 : decode cX7_dropped 84 = .ok (.sipush 1040, 3) := by decide +kernel
theorem dX7_dropped_87 : decode cX7_dropped 87 = .ok (.iload 5, 2) := by decide +kernel
theorem dX7_dropped_89 : decode cX7_dropped 89 = .ok (.invokevirtual 55, 3) := by decide +kernel
theorem dX7_dropped_92 : decode cX7_dropped 92 = .ok (.if_icmp .le 7, 3) := by decide +kernel
theorem dX7_dropped_95 : decode cX7_dropped 95 = .ok (.iconst 1, 1) := by decide +kernel
theorem dX7_dropped_96 : decode cX7_dropped 96 = .ok (.goto 4, 3) := by decide +kernel
theorem dX7_dropped_99 : decode cX7_dropped 99 = .ok (.iconst 0, 1) := by decide +kernel
theorem dX7_dropped_100 : decode cX7_dropped 100 = .ok (.iadd, 1) := by decide +kernel
theorem dX7_dropped_101 : decode cX7_dropped 101 = .ok (.istore 4, 2) := by decide +kernel
theorem dX7_dropped_103 : decode cX7_dropped 103 = .ok (.iinc 5 1, 3) := by decide +kernel
theorem dX7_dropped_106 : decode cX7_dropped 106 = .ok (.goto (-41), 3) := by decide +kernel
theorem dX7_dropped_109 : decode cX7_dropped 109 = .ok (.iload 4, 2) := by decide +kernel
theorem dX7_dropped_111 : decode cX7_dropped 111 = .ok (.ireturn, 1) := by decide +kernel
set_option maxRecDepth 20000 in
theorem ggX7_ifDropped_X7_isBalloon : GoodIn wsX7_ifDropped wsX7_isBalloon := goodIn_r _ [4, 5, 6, 3, 7] (by decide +kernel) (by decide +kernel)
set_option maxRecDepth 20000 in
theorem gX7_ifDropped_X7_isBalloon : GoodIn wsX7_ifDropped (va_wsS RX7 88 yX7_isBalloon wsX7_isBalloon) := goodIn_app (goodIn_of _ (by decide +kernel)) ggX7_ifDropped_X7_isBalloon
set_option maxRecDepth 20000 in
theorem ggX7_ifDropped_X7_in : GoodIn wsX7_ifDropped wsX7_in := goodIn_r _ [7] (by decide +kernel) (by decide +kernel)
set_option maxRecDepth 20000 in
theorem gX7_ifDropped_X7_in : GoodIn wsX7_ifDropped (va_wsS RX7 23 yX7_in wsX7_in) := goodIn_app (goodIn_of _ (by decide +kernel)) ggX7_ifDropped_X7_in
set_option maxRecDepth 20000 in
theorem ggX7_ifDropped_X7_holds : GoodIn wsX7_ifDropped wsX7_holds := goodIn_r _ [11, 12, 66, 67, 68, 69, 70, 71, 72, 73, 74, 75, 76, 77] (by decide +kernel) (by decide +kernel)
set_option maxRecDepth 20000 in
theorem gX7_ifDropped_X7_holds : GoodIn wsX7_ifDropped (wsV RX7 98 RX7 yX7_holds wsX7_holds) := goodIn_app (goodIn_of _ (by decide +kernel)) ggX7_ifDropped_X7_holds
set_option maxRecDepth 20000 in
theorem ggX7_ifDropped_X7_dropped : GoodIn wsX7_ifDropped wsX7_dropped := goodIn_r _ [16, 17, 18, 19, 20, 3, 21, 22, 23, 24, 25, 26, 27, 28, 29, 30, 31, 32, 33, 34, 35, 36, 37, 38, 39, 40, 41, 42, 43, 44, 45, 46, 47, 48, 49, 50, 51, 52, 53, 54, 55, 56, 57, 58, 59, 60, 61, 62, 63, 64, 65, 66, 67, 68, 69, 70, 71, 72, 73, 74, 75, 76, 77] (by decide +kernel) (by decide +kernel)
set_option maxRecDepth 20000 in
theorem gX7_ifDropped_X7_dropped : GoodIn wsX7_ifDropped (wsV RX7 221 RX7 yX7_dropped wsX7_dropped) := goodIn_app (goodIn_of _ (by decide +kernel)) ggX7_ifDropped_X7_dropped
theorem dX7_ifDropped_0 : decode cX7_ifDropped 0 = .ok (.aload_n 0, 1) := by decide +kernel
theorem dX7_ifDropped_1 : decode cX7_ifDropped 1 = .ok (.iload_n 1, 1) := by decide +kernel
theorem dX7_ifDropped_2 : decode cX7_ifDropped 2 = .ok (.invokestatic 88, 3) := by decide +kernel
theorem dX7_ifDropped_5 : decode cX7_ifDropped 5 = .ok (.ifCond .ne 7, 3) := by decide +kernel
theorem dX7_ifDropped_8 : decode cX7_ifDropped 8 = .ok (.iconst 1, 1) := by decide +kernel
theorem dX7_ifDropped_9 : decode cX7_ifDropped 9 = .ok (.goto 17, 3) := by decide +kernel
theorem dX7_ifDropped_12 : decode cX7_ifDropped 12 = .ok (.iload_n 2, 1) := by decide +kernel
theorem dX7_ifDropped_13 : decode cX7_ifDropped 13 = .ok (.iconst 0, 1) := by decide +kernel
theorem dX7_ifDropped_14 : decode cX7_ifDropped 14 = .ok (.iconst 2, 1) := by decide +kernel
theorem dX7_ifDropped_15 : decode cX7_ifDropped 15 = .ok (.invokestatic 23, 3) := by decide +kernel
theorem dX7_ifDropped_18 : decode cX7_ifDropped 18 = .ok (.ifCond .ne 7, 3) := by decide +kernel
theorem dX7_ifDropped_21 : decode cX7_ifDropped 21 = .ok (.iconst 2, 1) := by decide +kernel
theorem dX7_ifDropped_22 : decode cX7_ifDropped 22 = .ok (.goto 4, 3) := by decide +kernel
theorem dX7_ifDropped_25 : decode cX7_ifDropped 25 = .ok (.iconst 0, 1) := by decide +kernel
theorem dX7_ifDropped_26 : decode cX7_ifDropped 26 = .ok (.invokevirtual 98, 3) := by decide +kernel
theorem dX7_ifDropped_29 : decode cX7_ifDropped 29 = .ok (.ifCond .eq 12, 3) := by decide +kernel
theorem dX7_ifDropped_32 : decode cX7_ifDropped 32 = .ok (.aload_n 0, 1) := by decide +kernel
theorem dX7_ifDropped_33 : decode cX7_ifDropped 33 = .ok (.iload_n 1, 1) := by decide +kernel
theorem dX7_ifDropped_34 : decode cX7_ifDropped 34 = .ok (.iload_n 2, 1) := by decide +kernel
theorem dX7_ifDropped_35 : decode cX7_ifDropped 35 = .ok (.invokevirtual 221, 3) := by decide +kernel
theorem dX7_ifDropped_38 : decode cX7_ifDropped 38 = .ok (.goto 4, 3) := by decide +kernel
theorem dX7_ifDropped_41 : decode cX7_ifDropped 41 = .ok (.iconst 0, 1) := by decide +kernel
theorem dX7_ifDropped_42 : decode cX7_ifDropped 42 = .ok (.ireturn, 1) := by decide +kernel
set_option maxRecDepth 20000 in
theorem ggX7_lands_X7_copies : GoodIn wsX7_lands wsX7_copies := goodIn_r _ [6, 7, 55, 56, 57, 58, 59, 60, 61, 62, 63, 64, 65, 66] (by decide +kernel) (by decide +kernel)
set_option maxRecDepth 20000 in
theorem gX7_lands_X7_copies : GoodIn wsX7_lands (wsV RX7 81 RX7 yX7_copies wsX7_copies) := goodIn_app (goodIn_of _ (by decide +kernel)) ggX7_lands_X7_copies
set_option maxRecDepth 20000 in
theorem ggX7_lands_X7_rises : GoodIn wsX7_lands wsX7_rises := goodIn_r _ [11, 1, 12, 13, 14, 5, 15, 16, 17, 18, 19, 20, 21, 22, 23, 7, 24, 25, 26, 27, 28, 29, 30, 31, 32, 33, 34, 55, 56, 57, 58, 59, 60, 61, 62, 63, 64, 65, 66] (by decide +kernel) (by decide +kernel)
set_option maxRecDepth 20000 in
theorem gX7_lands_X7_rises : GoodIn wsX7_lands (wsV RX7 48 RX7 yX7_rises wsX7_rises) := goodIn_app (goodIn_of _ (by decide +kernel)) ggX7_lands_X7_rises
set_option maxRecDepth 20000 in
theorem ggX7_lands_X7_hour : GoodIn wsX7_lands wsX7_hour := goodIn_r _ [38, 7, 20, 21, 22, 5, 23, 32, 33, 34, 39, 40, 41, 42, 43, 44, 45, 46, 8, 9, 10, 11, 1, 12, 13, 14, 15, 16, 17, 18, 19, 24, 25, 26, 27, 28, 29, 30, 31, 47, 48, 49, 50, 51, 52, 53, 54, 55, 56, 57, 58, 59, 60, 61, 62, 63, 64, 65, 66] (by decide +kernel) (by decide +kernel)
set_option maxRecDepth 20000 in
theorem gX7_lands_X7_hour : GoodIn wsX7_lands (wsV RX7 66 RX7 yX7_hour wsX7_hour) := goodIn_app (goodIn_of _ (by decide +kernel)) ggX7_lands_X7_hour
theorem dX7_lands_0 : decode cX7_lands 0 = .ok (.aload_n 0, 1) := by decide +kernel
theorem dX7_lands_1 : decode cX7_lands 1 = .ok (.iconst 0, 1) := by decide +kernel
theorem dX7_lands_2 : decode cX7_lands 2 = .ok (.bipush 8, 2) := by decide +kernel
theorem dX7_lands_4 : decode cX7_lands 4 = .ok (.invokevirtual 81, 3) := by decide +kernel
theorem dX7_lands_7 : decode cX7_lands 7 = .ok (.iconst 0, 1) := by decide +kernel
theorem dX7_lands_8 : decode cX7_lands 8 = .ok (.istore_n 2, 1) := by decide +kernel
theorem dX7_lands_9 : decode cX7_lands 9 = .ok (.iload_n 2, 1) := by decide +kernel
theorem dX7_lands_10 : decode cX7_lands 10 = .ok (.sipush 200, 3) := by decide +kernel
theorem dX7_lands_13 : decode cX7_lands 13 = .ok (.if_icmp .gt 35, 3) := by decide +kernel
theorem dX7_lands_16 : decode cX7_lands 16 = .ok (.aload_n 0, 1) := by decide +kernel
theorem dX7_lands_17 : decode cX7_lands 17 = .ok (.sipush 1040, 3) := by decide +kernel
theorem dX7_lands_20 : decode cX7_lands 20 = .ok (.invokevirtual 48, 3) := by decide +kernel
theorem dX7_lands_23 : decode cX7_lands 23 = .ok (.aload_n 0, 1) := by decide +kernel
theorem dX7_lands_24 : decode cX7_lands 24 = .ok (.getfield 16, 3) := by decide +kernel
theorem dX7_lands_27 : decode cX7_lands 27 = .ok (.iload_n 1, 1) := by decide +kernel
theorem dX7_lands_28 : decode cX7_lands 28 = .ok (.iaload, 1) := by decide +kernel
theorem dX7_lands_29 : decode cX7_lands 29 = .ok (.ifCond .ne 5, 3) := by decide +kernel
theorem dX7_lands_32 : decode cX7_lands 32 = .ok (.iload_n 2, 1) := by decide +kernel
theorem dX7_lands_33 : decode cX7_lands 33 = .ok (.ireturn, 1) := by decide +kernel
theorem dX7_lands_34 : decode cX7_lands 34 = .ok (.aload_n 0, 1) := by decide +kernel
theorem dX7_lands_35 : decode cX7_lands 35 = .ok (.sipush 1040, 3) := by decide +kernel
theorem dX7_lands_38 : decode cX7_lands 38 = .ok (.invokevirtual 66, 3) := by decide +kernel
theorem dX7_lands_41 : decode cX7_lands 41 = .ok (.pop, 1) := by decide +kernel
theorem dX7_lands_42 : decode cX7_lands 42 = .ok (.iinc 2 1, 3) := by decide +kernel
theorem dX7_lands_45 : decode cX7_lands 45 = .ok (.goto (-36), 3) := by decide +kernel
theorem dX7_lands_48 : decode cX7_lands 48 = .ok (.sipush (-1000), 3) := by decide +kernel
theorem dX7_lands_51 : decode cX7_lands 51 = .ok (.ireturn, 1) := by decide +kernel
set_option maxRecDepth 20000 in
theorem ggX7_landsIn_X7_isBalloon : GoodIn wsX7_landsIn wsX7_isBalloon := goodIn_r _ [4, 5, 6, 3, 7] (by decide +kernel) (by decide +kernel)
set_option maxRecDepth 20000 in
theorem gX7_landsIn_X7_isBalloon : GoodIn wsX7_landsIn (va_wsS RX7 88 yX7_isBalloon wsX7_isBalloon) := goodIn_app (goodIn_of _ (by decide +kernel)) ggX7_landsIn_X7_isBalloon
set_option maxRecDepth 20000 in
theorem ggX7_landsIn_X7_holds : GoodIn wsX7_landsIn wsX7_holds := goodIn_r _ [11, 12, 70, 71, 72, 73, 74, 75, 76, 77, 78, 79, 80, 81] (by decide +kernel) (by decide +kernel)
set_option maxRecDepth 20000 in
theorem gX7_landsIn_X7_holds : GoodIn wsX7_landsIn (wsV RX7 98 RX7 yX7_holds wsX7_holds) := goodIn_app (goodIn_of _ (by decide +kernel)) ggX7_landsIn_X7_holds
set_option maxRecDepth 20000 in
theorem ggX7_landsIn_X7_lands : GoodIn wsX7_landsIn wsX7_lands := goodIn_r _ [16, 17, 18, 19, 20, 3, 21, 22, 23, 24, 25, 26, 27, 28, 29, 30, 31, 32, 33, 34, 35, 36, 37, 38, 39, 40, 41, 42, 43, 44, 45, 46, 47, 48, 49, 50, 51, 52, 53, 54, 55, 56, 57, 58, 59, 60, 61, 62, 63, 64, 65, 66, 67, 68, 69, 70, 71, 72, 73, 74, 75, 76, 77, 78, 79, 80, 81] (by decide +kernel) (by decide +kernel)
set_option maxRecDepth 20000 in
theorem gX7_landsIn_X7_lands : GoodIn wsX7_landsIn (wsV RX7 224 RX7 yX7_lands wsX7_lands) := goodIn_app (goodIn_of _ (by decide +kernel)) ggX7_landsIn_X7_lands
theorem dX7_landsIn_0 : decode cX7_landsIn 0 = .ok (.aload_n 0, 1) := by decide +kernel
theorem dX7_landsIn_1 : decode cX7_landsIn 1 = .ok (.iload_n 1, 1) := by decide +kernel
theorem dX7_landsIn_2 : decode cX7_landsIn 2 = .ok (.invokestatic 88, 3) := by decide +kernel
theorem dX7_landsIn_5 : decode cX7_landsIn 5 = .ok (.ifCond .eq 7, 3) := by decide +kernel
theorem dX7_landsIn_8 : decode cX7_landsIn 8 = .ok (.iconst 0, 1) := by decide +kernel
theorem dX7_landsIn_9 : decode cX7_landsIn 9 = .ok (.goto 4, 3) := by decide +kernel
theorem dX7_landsIn_12 : decode cX7_landsIn 12 = .ok (.iconst 1, 1) := by decide +kernel
theorem dX7_landsIn_13 : decode cX7_landsIn 13 = .ok (.invokevirtual 98, 3) := by decide +kernel
theorem dX7_landsIn_16 : decode cX7_landsIn 16 = .ok (.ifCond .eq 11, 3) := by decide +kernel
theorem dX7_landsIn_19 : decode cX7_landsIn 19 = .ok (.aload_n 0, 1) := by decide +kernel
theorem dX7_landsIn_20 : decode cX7_landsIn 20 = .ok (.iload_n 1, 1) := by decide +kernel
theorem dX7_landsIn_21 : decode cX7_landsIn 21 = .ok (.invokevirtual 224, 3) := by decide +kernel
theorem dX7_landsIn_24 : decode cX7_landsIn 24 = .ok (.goto 4, 3) := by decide +kernel
theorem dX7_landsIn_27 : decode cX7_landsIn 27 = .ok (.iconst 0, 1) := by decide +kernel
theorem dX7_landsIn_28 : decode cX7_landsIn 28 = .ok (.ireturn, 1) := by decide +kernel
set_option maxRecDepth 20000 in
theorem ggX7_snaps_X7_copies : GoodIn wsX7_snaps wsX7_copies := goodIn_r _ [5, 6, 55, 56, 57, 58, 59, 60, 61, 62, 63, 64, 65, 66] (by decide +kernel) (by decide +kernel)
set_option maxRecDepth 20000 in
theorem gX7_snaps_X7_copies : GoodIn wsX7_snaps (wsV RX7 81 RX7 yX7_copies wsX7_copies) := goodIn_app (goodIn_of _ (by decide +kernel)) ggX7_snaps_X7_copies
set_option maxRecDepth 20000 in
theorem ggX7_snaps_X7_hour : GoodIn wsX7_snaps wsX7_hour := goodIn_r _ [10, 6, 11, 12, 13, 4, 14, 15, 16, 17, 18, 19, 20, 21, 22, 23, 24, 25, 26, 27, 28, 29, 30, 31, 32, 33, 34, 35, 36, 37, 38, 39, 40, 41, 42, 43, 44, 45, 46, 47, 48, 49, 50, 51, 52, 53, 54, 55, 56, 57, 58, 59, 60, 61, 62, 63, 64, 65, 66] (by decide +kernel) (by decide +kernel)
set_option maxRecDepth 20000 in
theorem gX7_snaps_X7_hour : GoodIn wsX7_snaps (wsV RX7 66 RX7 yX7_hour wsX7_hour) := goodIn_app (goodIn_of _ (by decide +kernel)) ggX7_snaps_X7_hour
theorem dX7_snaps_0 : decode cX7_snaps 0 = .ok (.aload_n 0, 1) := by decide +kernel
theorem dX7_snaps_1 : decode cX7_snaps 1 = .ok (.iconst 0, 1) := by decide +kernel
theorem dX7_snaps_2 : decode cX7_snaps 2 = .ok (.bipush 8, 2) := by decide +kernel
theorem dX7_snaps_4 : decode cX7_snaps 4 = .ok (.invokevirtual 81, 3) := by decide +kernel
theorem dX7_snaps_7 : decode cX7_snaps 7 = .ok (.iconst 1, 1) := by decide +kernel
theorem dX7_snaps_8 : decode cX7_snaps 8 = .ok (.istore_n 1, 1) := by decide +kernel
theorem dX7_snaps_9 : decode cX7_snaps 9 = .ok (.iload_n 1, 1) := by decide +kernel
theorem dX7_snaps_10 : decode cX7_snaps 10 = .ok (.sipush 200, 3) := by decide +kernel
theorem dX7_snaps_13 : decode cX7_snaps 13 = .ok (.if_icmp .gt 21, 3) := by decide +kernel
theorem dX7_snaps_16 : decode cX7_snaps 16 = .ok (.aload_n 0, 1) := by decide +kernel
theorem dX7_snaps_17 : decode cX7_snaps 17 = .ok (.sipush 1040, 3) := by decide +kernel
theorem dX7_snaps_20 : decode cX7_snaps 20 = .ok (.invokevirtual 66, 3) := by decide +kernel
theorem dX7_snaps_23 : decode cX7_snaps 23 = .ok (.ifCond .le 5, 3) := by decide +kernel
theorem dX7_snaps_26 : decode cX7_snaps 26 = .ok (.iload_n 1, 1) := by decide +kernel
theorem dX7_snaps_27 : decode cX7_snaps 27 = .ok (.ireturn, 1) := by decide +kernel
theorem dX7_snaps_28 : decode cX7_snaps 28 = .ok (.iinc 1 1, 3) := by decide +kernel
theorem dX7_snaps_31 : decode cX7_snaps 31 = .ok (.goto (-22), 3) := by decide +kernel
theorem dX7_snaps_34 : decode cX7_snaps 34 = .ok (.sipush (-1000), 3) := by decide +kernel
theorem dX7_snaps_37 : decode cX7_snaps 37 = .ok (.ireturn, 1) := by decide +kernel
set_option maxRecDepth 20000 in
theorem ggX7_snapsIn_X7_snaps : GoodIn wsX7_snapsIn wsX7_snaps := goodIn_r _ [6, 7, 8, 9, 5, 10, 11, 12, 13, 14, 15, 16, 17, 18, 19, 20, 21, 22, 23, 24, 25, 26, 27, 28, 29, 30, 31, 32, 33, 34, 35, 36, 37, 38, 39, 40, 41, 42, 43, 44, 45, 46, 47, 48, 49, 50, 51, 52, 53, 54, 55, 56, 57, 58, 59, 60, 61, 62, 63, 64, 65, 66, 67, 68, 69, 70, 71] (by decide +kernel) (by decide +kernel)
set_option maxRecDepth 20000 in
theorem gX7_snapsIn_X7_snaps : GoodIn wsX7_snapsIn (wsV RX7 227 RX7 yX7_snaps wsX7_snaps) := goodIn_app (goodIn_of _ (by decide +kernel)) ggX7_snapsIn_X7_snaps
theorem dX7_snapsIn_0 : decode cX7_snapsIn 0 = .ok (.aload_n 0, 1) := by decide +kernel
theorem dX7_snapsIn_1 : decode cX7_snapsIn 1 = .ok (.iconst 0, 1) := by decide +kernel
theorem dX7_snapsIn_2 : decode cX7_snapsIn 2 = .ok (.putfield 19, 3) := by decide +kernel
theorem dX7_snapsIn_5 : decode cX7_snapsIn 5 = .ok (.aload_n 0, 1) := by decide +kernel
theorem dX7_snapsIn_6 : decode cX7_snapsIn 6 = .ok (.invokevirtual 227, 3) := by decide +kernel
theorem dX7_snapsIn_9 : decode cX7_snapsIn 9 = .ok (.ireturn, 1) := by decide +kernel
set_option maxRecDepth 20000 in
theorem ggX7_bagOf_X7_dropped : GoodIn wsX7_bagOf wsX7_dropped := goodIn_r _ [5, 6, 7, 8, 9, 4, 10, 11, 12, 13, 14, 15, 16, 17, 18, 19, 20, 21, 22, 23, 24, 25, 26, 27, 28, 29, 30, 31, 32, 33, 34, 35, 36, 37, 38, 39, 40, 41, 42, 43, 44, 45, 46, 47, 48, 49, 50, 51, 52, 53, 54, 55, 56, 57, 58, 59, 60, 61, 62, 63, 64, 65, 66] (by decide +kernel) (by decide +kernel)
set_option maxRecDepth 20000 in
theorem gX7_bagOf_X7_dropped : GoodIn wsX7_bagOf (wsV RX7 221 RX7 yX7_dropped wsX7_dropped) := goodIn_app (goodIn_of _ (by decide +kernel)) ggX7_bagOf_X7_dropped
theorem dX7_bagOf_0 : decode cX7_bagOf 0 = .ok (.sipush (-1000), 3) := by decide +kernel
theorem dX7_bagOf_3 : decode cX7_bagOf 3 = .ok (.istore_n 1, 1) := by decide +kernel
theorem dX7_bagOf_4 : decode cX7_bagOf 4 = .ok (.iconst 0, 1) := by decide +kernel
theorem dX7_bagOf_5 : decode cX7_bagOf 5 = .ok (.istore_n 2, 1) := by decide +kernel
theorem dX7_bagOf_6 : decode cX7_bagOf 6 = .ok (.iconst 0, 1) := by decide +kernel
theorem dX7_bagOf_7 : decode cX7_bagOf 7 = .ok (.istore_n 3, 1) := by decide +kernel
theorem dX7_bagOf_8 : decode cX7_bagOf 8 = .ok (.iload_n 3, 1) := by decide +kernel
theorem dX7_bagOf_9 : decode cX7_bagOf 9 = .ok (.bipush 8, 2) := by decide +kernel
theorem dX7_bagOf_11 : decode cX7_bagOf 11 = .ok (.if_icmp .ge 68, 3) := by decide +kernel
theorem dX7_bagOf_14 : decode cX7_bagOf 14 = .ok (.aload_n 0, 1) := by decide +kernel
theorem dX7_bagOf_15 : decode cX7_bagOf 15 = .ok (.iload_n 3, 1) := by decide +kernel
theorem dX7_bagOf_16 : decode cX7_bagOf 16 = .ok (.iconst 1, 1) := by decide +kernel
theorem dX7_bagOf_17 : decode cX7_bagOf 17 = .ok (.invokevirtual 221, 3) := by decide +kernel
theorem dX7_bagOf_20 : decode cX7_bagOf 20 = .ok (.istore 4, 2) := by decide +kernel
theorem dX7_bagOf_22 : decode cX7_bagOf 22 = .ok (.iload 4, 2) := by decide +kernel
theorem dX7_bagOf_24 : decode cX7_bagOf 24 = .ok (.sipush (-1000), 3) := by decide +kernel
theorem dX7_bagOf_27 : decode cX7_bagOf 27 = .ok (.if_icmp .eq 20, 3) := by decide +kernel
theorem dX7_bagOf_30 : decode cX7_bagOf 30 = .ok (.iload_n 1, 1) := by decide +kernel
theorem dX7_bagOf_31 : decode cX7_bagOf 31 = .ok (.sipush (-1000), 3) := by decide +kernel
theorem dX7_bagOf_34 : decode cX7_bagOf 34 = .ok (.if_icmp .eq 9, 3) := by decide +kernel
theorem dX7_bagOf_37 : decode cX7_bagOf 37 = .ok (.iload 4, 2) := by decide +kernel
theorem dX7_bagOf_39 : decode cX7_bagOf 39 = .ok (.iload_n 2, 1) := by decide +kernel
theorem dX7_bagOf_40 : decode cX7_bagOf 40 = .ok (.if_icmp .le 7, 3) := by decide +kernel
theorem dX7_bagOf_43 : decode cX7_bagOf 43 = .ok (.iconst 1, 1) := by decide +kernel
theorem dX7_bagOf_44 : decode cX7_bagOf 44 = .ok (.goto 4, 3) := by decide +kernel
theorem dX7_bagOf_47 : decode cX7_bagOf 47 = .ok (.iconst 0, 1) := by decide +kernel
theorem dX7_bagOf_48 : decode cX7_bagOf 48 = .ok (.istore 5, 2) := by decide +kernel
theorem dX7_bagOf_50 : decode cX7_bagOf 50 = .ok (.iload 5, 2) := by decide +kernel
theorem dX7_bagOf_52 : decode cX7_bagOf 52 = .ok (.ifCond .eq 7, 3) := by decide +kernel
theorem dX7_bagOf_55 : decode cX7_bagOf 55 = .ok (.iload_n 3, 1) := by decide +kernel
theorem dX7_bagOf_56 : decode cX7_bagOf 56 = .ok (.goto 4, 3) := by decide +kernel
theorem dX7_bagOf_59 : decode cX7_bagOf 59 = .ok (.iload_n 1, 1) := by decide +kernel
theorem dX7_bagOf_60 : decode cX7_bagOf 60 = .ok (.istore_n 1, 1) := by decide +kernel
theorem dX7_bagOf_61 : decode cX7_bagOf 61 = .ok (.iload 5, 2) := by decide +kernel
theorem dX7_bagOf_63 : decode cX7_bagOf 63 = .ok (.ifCond .eq 8, 3) := by decide +kernel
theorem dX7_bagOf_66 : decode cX7_bagOf 66 = .ok (.iload 4, 2) := by decide +kernel
theorem dX7_bagOf_68 : decode cX7_bagOf 68 = .ok (.goto 4, 3) := by decide +kernel
theorem dX7_bagOf_71 : decode cX7_bagOf 71 = .ok (.iload_n 2, 1) := by decide +kernel
theorem dX7_bagOf_72 : decode cX7_bagOf 72 = .ok (.istore_n 2, 1) := by decide +kernel
theorem dX7_bagOf_73 : decode cX7_bagOf 73 = .ok (.iinc 3 1, 3) := by decide +kernel
theorem dX7_bagOf_76 : decode cX7_bagOf 76 = .ok (.goto (-68), 3) := by decide +kernel
theorem dX7_bagOf_79 : decode cX7_bagOf 79 = .ok (.iload_n 1, 1) := by decide +kernel
theorem dX7_bagOf_80 : decode cX7_bagOf 80 = .ok (.ireturn, 1) := by decide +kernel
set_option maxRecDepth 20000 in
theorem ggX7_bestBag_X7_bagOf : GoodIn wsX7_bestBag wsX7_bagOf := goodIn_r _ [6, 7, 8, 9, 5, 10, 11, 12, 13, 14, 15, 16, 17, 18, 19, 20, 21, 22, 23, 24, 25, 26, 27, 28, 29, 30, 31, 32, 33, 34, 35, 36, 37, 38, 39, 40, 41, 42, 43, 44, 45, 46, 47, 48, 49, 50, 51, 52, 53, 54, 55, 56, 57, 58, 59, 60, 61, 62, 63, 64, 65, 66, 67, 68, 69, 70, 71] (by decide +kernel) (by decide +kernel)
set_option maxRecDepth 20000 in
theorem gX7_bestBag_X7_bagOf : GoodIn wsX7_bestBag (wsV RX7 230 RX7 yX7_bagOf wsX7_bagOf) := goodIn_app (goodIn_of _ (by decide +kernel)) ggX7_bestBag_X7_bagOf
theorem dX7_bestBag_0 : decode cX7_bestBag 0 = .ok (.aload_n 0, 1) := by decide +kernel
theorem dX7_bestBag_1 : decode cX7_bestBag 1 = .ok (.iconst 0, 1) := by decide +kernel
theorem dX7_bestBag_2 : decode cX7_bestBag 2 = .ok (.putfield 19, 3) := by decide +kernel
theorem dX7_bestBag_5 : decode cX7_bestBag 5 = .ok (.aload_n 0, 1) := by decide +kernel
theorem dX7_bestBag_6 : decode cX7_bestBag 6 = .ok (.invokevirtual 230, 3) := by decide +kernel
theorem dX7_bestBag_9 : decode cX7_bestBag 9 = .ok (.ireturn, 1) := by decide +kernel
set_option maxRecDepth 20000 in
theorem ggX7_mean_X7_allHeights : GoodIn wsX7_mean wsX7_allHeights := goodIn_r _ [6, 7, 8, 9, 10, 5, 11, 12, 13, 14, 15, 16, 17, 18, 19, 20, 21, 22, 23, 24, 25, 26, 27, 28, 29, 30, 31, 32, 33, 34, 35, 36, 37, 38, 39, 40, 41, 42, 43, 44, 45, 46, 47] (by decide +kernel) (by decide +kernel)
set_option maxRecDepth 20000 in
theorem gX7_mean_X7_allHeights : GoodIn wsX7_mean (wsV RX7 72 RX7 yX7_allHeights wsX7_allHeights) := goodIn_app (goodIn_of _ (by decide +kernel)) ggX7_mean_X7_allHeights
theorem dX7_mean_0 : decode cX7_mean 0 = .ok (.aload_n 0, 1) := by decide +kernel
theorem dX7_mean_1 : decode cX7_mean 1 = .ok (.iconst 0, 1) := by decide +kernel
theorem dX7_mean_2 : decode cX7_mean 2 = .ok (.invokevirtual 72, 3) := by decide +kernel
theorem dX7_mean_5 : decode cX7_mean 5 = .ok (.i2d, 1) := by decide +kernel
theorem dX7_mean_6 : decode cX7_mean 6 = .ok (.ldc2_w 233, 3) := by decide +kernel
theorem dX7_mean_9 : decode cX7_mean 9 = .ok (.ddiv, 1) := by decide +kernel
theorem dX7_mean_10 : decode cX7_mean 10 = .ok (.dreturn, 1) := by decide +kernel
set_option maxRecDepth 20000 in
theorem ggX7_meanHeight_X7_mean : GoodIn wsX7_meanHeight wsX7_mean := goodIn_r _ [6, 7, 8, 9, 10, 5, 11, 12, 13, 14, 15, 16, 17, 18, 19, 20, 21, 22, 23, 24, 25, 26, 27, 28, 29, 30, 31, 32, 33, 34, 35, 36, 37, 38, 39, 40, 41, 42, 43, 44, 45, 46, 47, 48, 49, 50, 51, 52] (by decide +kernel) (by decide +kernel)
set_option maxRecDepth 20000 in
theorem gX7_meanHeight_X7_mean : GoodIn wsX7_meanHeight (wsV RX7 235 RX7 yX7_mean wsX7_mean) := goodIn_app (goodIn_of _ (by decide +kernel)) ggX7_meanHeight_X7_mean
theorem dX7_meanHeight_0 : decode cX7_meanHeight 0 = .ok (.aload_n 0, 1) := by decide +kernel
theorem dX7_meanHeight_1 : decode cX7_meanHeight 1 = .ok (.iconst 0, 1) := by decide +kernel
theorem dX7_meanHeight_2 : decode cX7_meanHeight 2 = .ok (.putfield 19, 3) := by decide +kernel
theorem dX7_meanHeight_5 : decode cX7_meanHeight 5 = .ok (.aload_n 0, 1) := by decide +kernel
theorem dX7_meanHeight_6 : decode cX7_meanHeight 6 = .ok (.invokevirtual 235, 3) := by decide +kernel
theorem dX7_meanHeight_9 : decode cX7_meanHeight 9 = .ok (.dreturn, 1) := by decide +kernel
theorem dX7_lost_0 : decode cX7_lost 0 = .ok (.aload_n 0, 1) := by decide +kernel
theorem dX7_lost_1 : decode cX7_lost 1 = .ok (.getfield 7, 3) := by decide +kernel
theorem dX7_lost_4 : decode cX7_lost 4 = .ok (.iconst 2, 1) := by decide +kernel
theorem dX7_lost_5 : decode cX7_lost 5 = .ok (.iaload, 1) := by decide +kernel
theorem dX7_lost_6 : decode cX7_lost 6 = .ok (.aload_n 0, 1) := by decide +kernel
theorem dX7_lost_7 : decode cX7_lost 7 = .ok (.getfield 7, 3) := by decide +kernel
theorem dX7_lost_10 : decode cX7_lost 10 = .ok (.iconst 3, 1) := by decide +kernel
theorem dX7_lost_11 : decode cX7_lost 11 = .ok (.iaload, 1) := by decide +kernel
theorem dX7_lost_12 : decode cX7_lost 12 = .ok (.iadd, 1) := by decide +kernel
theorem dX7_lost_13 : decode cX7_lost 13 = .ok (.i2f, 1) := by decide +kernel
theorem dX7_lost_14 : decode cX7_lost 14 = .ok (.sipush 480, 3) := by decide +kernel
theorem dX7_lost_17 : decode cX7_lost 17 = .ok (.aload_n 0, 1) := by decide +kernel
theorem dX7_lost_18 : decode cX7_lost 18 = .ok (.getfield 7, 3) := by decide +kernel
theorem dX7_lost_21 : decode cX7_lost 21 = .ok (.iconst 1, 1) := by decide +kernel
theorem dX7_lost_22 : decode cX7_lost 22 = .ok (.iaload, 1) := by decide +kernel
theorem dX7_lost_23 : decode cX7_lost 23 = .ok (.iadd, 1) := by decide +kernel
theorem dX7_lost_24 : decode cX7_lost 24 = .ok (.i2f, 1) := by decide +kernel
theorem dX7_lost_25 : decode cX7_lost 25 = .ok (.fdiv, 1) := by decide +kernel
theorem dX7_lost_26 : decode cX7_lost 26 = .ok (.freturn, 1) := by decide +kernel
set_option maxRecDepth 20000 in
theorem ggX7_lostShare_X7_lost : GoodIn wsX7_lostShare wsX7_lost := goodIn_r _ [6, 7, 8, 9, 10, 11, 12, 13, 14, 15, 16, 17, 18, 19] (by decide +kernel) (by decide +kernel)
set_option maxRecDepth 20000 in
theorem gX7_lostShare_X7_lost : GoodIn wsX7_lostShare (wsV RX7 239 RX7 yX7_lost wsX7_lost) := goodIn_app (goodIn_of _ (by decide +kernel)) ggX7_lostShare_X7_lost
theorem dX7_lostShare_0 : decode cX7_lostShare 0 = .ok (.aload_n 0, 1) := by decide +kernel
theorem dX7_lostShare_1 : decode cX7_lostShare 1 = .ok (.iconst 0, 1) := by decide +kernel
theorem dX7_lostShare_2 : decode cX7_lostShare 2 = .ok (.putfield 19, 3) := by decide +kernel
theorem dX7_lostShare_5 : decode cX7_lostShare 5 = .ok (.aload_n 0, 1) := by decide +kernel
theorem dX7_lostShare_6 : decode cX7_lostShare 6 = .ok (.invokevirtual 239, 3) := by decide +kernel
theorem dX7_lostShare_9 : decode cX7_lostShare 9 = .ok (.freturn, 1) := by decide +kernel
theorem dX7_mix_0 : decode cX7_mix 0 = .ok (.aload_n 0, 1) := by decide +kernel
theorem dX7_mix_1 : decode cX7_mix 1 = .ok (.ldc2_w 243, 3) := by decide +kernel
theorem dX7_mix_4 : decode cX7_mix 4 = .ok (.aload_n 0, 1) := by decide +kernel
theorem dX7_mix_5 : decode cX7_mix 5 = .ok (.getfield 245, 3) := by decide +kernel
theorem dX7_mix_8 : decode cX7_mix 8 = .ok (.lmul, 1) := by decide +kernel
theorem dX7_mix_9 : decode cX7_mix 9 = .ok (.lload_n 1, 1) := by decide +kernel
theorem dX7_mix_10 : decode cX7_mix 10 = .ok (.ladd, 1) := by decide +kernel
theorem dX7_mix_11 : decode cX7_mix 11 = .ok (.putfield 245, 3) := by decide +kernel
theorem dX7_mix_14 : decode cX7_mix 14 = .ok (.return_, 1) := by decide +kernel
theorem dX7_bits_0 : decode cX7_bits 0 = .ok (.dload_n 0, 1) := by decide +kernel
theorem dX7_bits_1 : decode cX7_bits 1 = .ok (.dconst 0, 1) := by decide +kernel
theorem dX7_bits_2 : decode cX7_bits 2 = .ok (.dcmp .l, 1) := by decide +kernel
theorem dX7_bits_3 : decode cX7_bits 3 = .ok (.ifCond .ne 5, 3) := by decide +kernel
theorem dX7_bits_6 : decode cX7_bits 6 = .ok (.lconst 0, 1) := by decide +kernel
theorem dX7_bits_7 : decode cX7_bits 7 = .ok (.lreturn, 1) := by decide +kernel
theorem dX7_bits_8 : decode cX7_bits 8 = .ok (.dload_n 0, 1) := by decide +kernel
theorem dX7_bits_9 : decode cX7_bits 9 = .ok (.dstore_n 2, 1) := by decide +kernel
theorem dX7_bits_10 : decode cX7_bits 10 = .ok (.ldc2_w 249, 3) := by decide +kernel
theorem dX7_bits_13 : decode cX7_bits 13 = .ok (.lstore 4, 2) := by decide +kernel
theorem dX7_bits_15 : decode cX7_bits 15 = .ok (.dload_n 2, 1) := by decide +kernel
theorem dX7_bits_16 : decode cX7_bits 16 = .ok (.ldc2_w 251, 3) := by decide +kernel
theorem dX7_bits_19 : decode cX7_bits 19 = .ok (.dcmp .l, 1) := by decide +kernel
theorem dX7_bits_20 : decode cX7_bits 20 = .ok (.ifCond .lt 18, 3) := by decide +kernel
theorem dX7_bits_23 : decode cX7_bits 23 = .ok (.dload_n 2, 1) := by decide +kernel
theorem dX7_bits_24 : decode cX7_bits 24 = .ok (.ldc2_w 251, 3) := by decide +kernel
theorem dX7_bits_27 : decode cX7_bits 27 = .ok (.ddiv, 1) := by decide +kernel
theorem dX7_bits_28 : decode cX7_bits 28 = .ok (.dstore_n 2, 1) := by decide +kernel
theorem dX7_bits_29 : decode cX7_bits 29 = .ok (.lload 4, 2) := by decide +kernel
theorem dX7_bits_31 : decode cX7_bits 31 = .ok (.lconst 1, 1) := by decide +kernel
theorem dX7_bits_32 : decode cX7_bits 32 = .ok (.ladd, 1) := by decide +kernel
theorem dX7_bits_33 : decode cX7_bits 33 = .ok (.lstore 4, 2) := by decide +kernel
theorem dX7_bits_35 : decode cX7_bits 35 = .ok (.goto (-20), 3) := by decide +kernel
theorem dX7_bits_38 : decode cX7_bits 38 = .ok (.dload_n 2, 1) := by decide +kernel
theorem dX7_bits_39 : decode cX7_bits 39 = .ok (.dconst 1, 1) := by decide +kernel
theorem dX7_bits_40 : decode cX7_bits 40 = .ok (.dcmp .g, 1) := by decide +kernel
theorem dX7_bits_41 : decode cX7_bits 41 = .ok (.ifCond .ge 18, 3) := by decide +kernel
theorem dX7_bits_44 : decode cX7_bits 44 = .ok (.dload_n 2, 1) := by decide +kernel
theorem dX7_bits_45 : decode cX7_bits 45 = .ok (.ldc2_w 251, 3) := by decide +kernel
theorem dX7_bits_48 : decode cX7_bits 48 = .ok (.dmul, 1) := by decide +kernel
theorem dX7_bits_49 : decode cX7_bits 49 = .ok (.dstore_n 2, 1) := by decide +kernel
theorem dX7_bits_50 : decode cX7_bits 50 = .ok (.lload 4, 2) := by decide +kernel
theorem dX7_bits_52 : decode cX7_bits 52 = .ok (.lconst 1, 1) := by decide +kernel
theorem dX7_bits_53 : decode cX7_bits 53 = .ok (.lsub, 1) := by decide +kernel
theorem dX7_bits_54 : decode cX7_bits 54 = .ok (.lstore 4, 2) := by decide +kernel
theorem dX7_bits_56 : decode cX7_bits 56 = .ok (.goto (-18), 3) := by decide +kernel
theorem dX7_bits_59 : decode cX7_bits 59 = .ok (.lload 4, 2) := by decide +kernel
theorem dX7_bits_61 : decode cX7_bits 61 = .ok (.ldc2_w 253, 3) := by decide +kernel
theorem dX7_bits_64 : decode cX7_bits 64 = .ok (.lmul, 1) := by decide +kernel
theorem dX7_bits_65 : decode cX7_bits 65 = .ok (.dload_n 2, 1) := by decide +kernel
theorem dX7_bits_66 : decode cX7_bits 66 = .ok (.dconst 1, 1) := by decide +kernel
theorem dX7_bits_67 : decode cX7_bits 67 = .ok (.dsub, 1) := by decide +kernel
theorem dX7_bits_68 : decode cX7_bits 68 = .ok (.ldc2_w 255, 3) := by decide +kernel
theorem dX7_bits_71 : decode cX7_bits 71 = .ok (.dmul, 1) := by decide +kernel
theorem dX7_bits_72 : decode cX7_bits 72 = .ok (.d2l, 1) := by decide +kernel
theorem dX7_bits_73 : decode cX7_bits 73 = .ok (.ladd, 1) := by decide +kernel
theorem dX7_bits_74 : decode cX7_bits 74 = .ok (.lreturn, 1) := by decide +kernel
theorem dX7_floatBits_0 : decode cX7_floatBits 0 = .ok (.fload_n 0, 1) := by decide +kernel
theorem dX7_floatBits_1 : decode cX7_floatBits 1 = .ok (.fconst 0, 1) := by decide +kernel
theorem dX7_floatBits_2 : decode cX7_floatBits 2 = .ok (.fcmp .l, 1) := by decide +kernel
theorem dX7_floatBits_3 : decode cX7_floatBits 3 = .ok (.ifCond .ne 5, 3) := by decide +kernel
theorem dX7_floatBits_6 : decode cX7_floatBits 6 = .ok (.iconst 0, 1) := by decide +kernel
theorem dX7_floatBits_7 : decode cX7_floatBits 7 = .ok (.ireturn, 1) := by decide +kernel
theorem dX7_floatBits_8 : decode cX7_floatBits 8 = .ok (.fload_n 0, 1) := by decide +kernel
theorem dX7_floatBits_9 : decode cX7_floatBits 9 = .ok (.fstore_n 1, 1) := by decide +kernel
theorem dX7_floatBits_10 : decode cX7_floatBits 10 = .ok (.bipush 127, 2) := by decide +kernel
theorem dX7_floatBits_12 : decode cX7_floatBits 12 = .ok (.istore_n 2, 1) := by decide +kernel
theorem dX7_floatBits_13 : decode cX7_floatBits 13 = .ok (.fload_n 1, 1) := by decide +kernel
theorem dX7_floatBits_14 : decode cX7_floatBits 14 = .ok (.fconst 1, 1) := by decide +kernel
theorem dX7_floatBits_15 : decode cX7_floatBits 15 = .ok (.fcmp .g, 1) := by decide +kernel
theorem dX7_floatBits_16 : decode cX7_floatBits 16 = .ok (.ifCond .ge 13, 3) := by decide +kernel
theorem dX7_floatBits_19 : decode cX7_floatBits 19 = .ok (.fload_n 1, 1) := by decide +kernel
theorem dX7_floatBits_20 : decode cX7_floatBits 20 = .ok (.fconst 2, 1) := by decide +kernel
theorem dX7_floatBits_21 : decode cX7_floatBits 21 = .ok (.fmul, 1) := by decide +kernel
theorem dX7_floatBits_22 : decode cX7_floatBits 22 = .ok (.fstore_n 1, 1) := by decide +kernel
theorem dX7_floatBits_23 : decode cX7_floatBits 23 = .ok (.iinc 2 (-1), 3) := by decide +kernel
theorem dX7_floatBits_26 : decode cX7_floatBits 26 = .ok (.goto (-13), 3) := by decide +kernel
theorem dX7_floatBits_29 : decode cX7_floatBits 29 = .ok (.iload_n 2, 1) := by decide +kernel
theorem dX7_floatBits_30 : decode cX7_floatBits 30 = .ok (.ldc_w 257, 3) := by decide +kernel
theorem dX7_floatBits_33 : decode cX7_floatBits 33 = .ok (.imul, 1) := by decide +kernel
theorem dX7_floatBits_34 : decode cX7_floatBits 34 = .ok (.fload_n 1, 1) := by decide +kernel
theorem dX7_floatBits_35 : decode cX7_floatBits 35 = .ok (.fconst 1, 1) := by decide +kernel
theorem dX7_floatBits_36 : decode cX7_floatBits 36 = .ok (.fsub, 1) := by decide +kernel
theorem dX7_floatBits_37 : decode cX7_floatBits 37 = .ok (.ldc_w 258, 3) := by decide +kernel
theorem dX7_floatBits_40 : decode cX7_floatBits 40 = .ok (.fmul, 1) := by decide +kernel
theorem dX7_floatBits_41 : decode cX7_floatBits 41 = .ok (.f2i, 1) := by decide +kernel
theorem dX7_floatBits_42 : decode cX7_floatBits 42 = .ok (.iadd, 1) := by decide +kernel
theorem dX7_floatBits_43 : decode cX7_floatBits 43 = .ok (.ireturn, 1) := by decide +kernel
set_option maxRecDepth 20000 in
theorem ggX7_mixRow_X7_ofBalloon : GoodIn wsX7_mixRow wsX7_ofBalloon := goodIn_r _ [5, 6, 7, 8, 9, 4, 10, 11, 12, 13, 14, 15, 16, 17, 18, 19, 20, 21, 22, 23, 24, 25, 26, 27, 28, 29, 30, 31, 32, 33, 34, 35, 36, 37, 38, 39, 40, 41, 42, 43, 44, 45, 46, 47, 48, 49, 50, 51, 52, 53, 54, 132, 133, 134, 135, 136, 137, 138, 139, 140, 141, 142, 143] (by decide +kernel) (by decide +kernel)
set_option maxRecDepth 20000 in
theorem gX7_mixRow_X7_ofBalloon : GoodIn wsX7_mixRow (wsV RX7 197 RX7 yX7_ofBalloon wsX7_ofBalloon) := goodIn_app (goodIn_of _ (by decide +kernel)) ggX7_mixRow_X7_ofBalloon
set_option maxRecDepth 20000 in
theorem ggX7_mixRow_X7_mix : GoodIn wsX7_mixRow wsX7_mix := goodIn_r _ [58, 59, 60, 132, 133, 134, 135, 136, 137, 138, 139, 140, 141, 142, 143] (by decide +kernel) (by decide +kernel)
set_option maxRecDepth 20000 in
theorem gX7_mixRow_X7_mix : GoodIn wsX7_mixRow (wsV RX7 259 RX7 yX7_mix wsX7_mix) := goodIn_app (goodIn_of _ (by decide +kernel)) ggX7_mixRow_X7_mix
set_option maxRecDepth 20000 in
theorem ggX7_mixRow_X7_reason : GoodIn wsX7_mixRow wsX7_reason := goodIn_r _ [64, 65, 66, 67, 4, 68, 11, 12, 13, 14, 6, 19, 20, 21, 22, 23, 24, 25, 26, 27, 15, 16, 17, 18, 7, 8, 9, 10, 28, 29, 30, 31, 32, 33, 34, 35, 36, 37, 38, 69, 70, 71, 72, 73, 74, 75, 76, 77, 78, 79, 80, 81, 82, 83, 84, 85, 86, 87, 88, 89, 90, 91, 132, 133, 134, 135, 136, 137, 138, 139, 140, 141, 142, 143] (by decide +kernel) (by decide +kernel)
set_option maxRecDepth 20000 in
theorem gX7_mixRow_X7_reason : GoodIn wsX7_mixRow (wsV RX7 218 RX7 yX7_reason wsX7_reason) := goodIn_app (goodIn_of _ (by decide +kernel)) ggX7_mixRow_X7_reason
set_option maxRecDepth 20000 in
theorem ggX7_mixRow_X7_dropped : GoodIn wsX7_mixRow wsX7_dropped := goodIn_r _ [95, 23, 11, 12, 13, 4, 14, 6, 96, 97, 98, 99, 100, 101, 102, 103, 104, 105, 106, 107, 24, 25, 26, 27, 15, 16, 17, 18, 7, 8, 9, 10, 28, 29, 30, 31, 32, 33, 34, 35, 36, 37, 38, 108, 109, 110, 111, 112, 113, 114, 115, 132, 133, 134, 135, 136, 137, 138, 139, 140, 141, 142, 143] (by decide +kernel) (by decide +kernel)
set_option maxRecDepth 20000 in
theorem gX7_mixRow_X7_dropped : GoodIn wsX7_mixRow (wsV RX7 221 RX7 yX7_dropped wsX7_dropped) := goodIn_app (goodIn_of _ (by decide +kernel)) ggX7_mixRow_X7_dropped
set_option maxRecDepth 20000 in
theorem ggX7_mixRow_X7_lands : GoodIn wsX7_mixRow wsX7_lands := goodIn_r _ [119, 23, 96, 97, 98, 4, 99, 6, 24, 25, 26, 27, 15, 16, 17, 18, 7, 8, 9, 10, 11, 12, 13, 14, 28, 29, 30, 31, 32, 33, 34, 35, 36, 37, 38, 120, 121, 122, 123, 100, 101, 102, 103, 124, 125, 126, 127, 108, 109, 110, 111, 112, 113, 114, 115, 132, 133, 134, 135, 136, 137, 138, 139, 140, 141, 142, 143] (by decide +kernel) (by decide +kernel)
set_option maxRecDepth 20000 in
theorem gX7_mixRow_X7_lands : GoodIn wsX7_mixRow (wsV RX7 224 RX7 yX7_lands wsX7_lands) := goodIn_app (goodIn_of _ (by decide +kernel)) ggX7_mixRow_X7_lands
set_option maxRecDepth 20000 in
theorem ggX7_mixRow_X7_ofRibbon : GoodIn wsX7_mixRow wsX7_ofRibbon := goodIn_r _ [131, 6, 24, 25, 26, 4, 27, 23, 15, 16, 17, 18, 7, 8, 9, 10, 11, 12, 13, 14, 28, 29, 30, 31, 32, 33, 34, 35, 36, 37, 38, 108, 109, 110, 111, 112, 113, 114, 115, 132, 133, 134, 135, 136, 137, 138, 139, 140, 141, 142, 143] (by decide +kernel) (by decide +kernel)
set_option maxRecDepth 20000 in
theorem gX7_mixRow_X7_ofRibbon : GoodIn wsX7_mixRow (wsV RX7 200 RX7 yX7_ofRibbon wsX7_ofRibbon) := goodIn_app (goodIn_of _ (by decide +kernel)) ggX7_mixRow_X7_ofRibbon
theorem dX7_mixRow_0 : decode cX7_mixRow 0 = .ok (.iconst 0, 1) := by decide +kernel
theorem dX7_mixRow_1 : decode cX7_mixRow 1 = .ok (.istore_n 1, 1) := by decide +kernel
theorem dX7_mixRow_2 : decode cX7_mixRow 2 = .ok (.iload_n 1, 1) := by decide +kernel
theorem dX7_mixRow_3 : decode cX7_mixRow 3 = .ok (.bipush 8, 2) := by decide +kernel
theorem dX7_mixRow_5 : decode cX7_mixRow 5 = .ok (.if_icmp .ge 92, 3) := by decide +kernel
theorem dX7_mixRow_8 : decode cX7_mixRow 8 = .ok (.iconst 0, 1) := by decide +kernel
theorem dX7_mixRow_9 : decode cX7_mixRow 9 = .ok (.istore_n 2, 1) := by decide +kernel
theorem dX7_mixRow_10 : decode cX7_mixRow 10 = .ok (.iload_n 2, 1) := by decide +kernel
theorem dX7_mixRow_11 : decode cX7_mixRow 11 = .ok (.bipush 12, 2) := by decide +kernel
theorem dX7_mixRow_13 : decode cX7_mixRow 13 = .ok (.if_icmp .ge 20, 3) := by decide +kernel
theorem dX7_mixRow_16 : decode cX7_mixRow 16 = .ok (.aload_n 0, 1) := by decide +kernel
theorem dX7_mixRow_17 : decode cX7_mixRow 17 = .ok (.aload_n 0, 1) := by decide +kernel
theorem dX7_mixRow_18 : decode cX7_mixRow 18 = .ok (.iload_n 1, 1) := by decide +kernel
theorem dX7_mixRow_19 : decode cX7_mixRow 19 = .ok (.iload_n 2, 1) := by decide +kernel
theorem dX7_mixRow_20 : decode cX7_mixRow 20 = .ok (.invokevirtual 197, 3) := by decide +kernel
theorem dX7_mixRow_23 : decode cX7_mixRow 23 = .ok (.i2l, 1) := by decide +kernel
theorem dX7_mixRow_24 : decode cX7_mixRow 24 = .ok (.invokevirtual 259, 3) := by decide +kernel
theorem dX7_mixRow_27 : decode cX7_mixRow 27 = .ok (.iinc 2 1, 3) := by decide +kernel
theorem dX7_mixRow_30 : decode cX7_mixRow 30 = .ok (.goto (-20), 3) := by decide +kernel
theorem dX7_mixRow_33 : decode cX7_mixRow 33 = .ok (.iconst 0, 1) := by decide +kernel
theorem dX7_mixRow_34 : decode cX7_mixRow 34 = .ok (.istore_n 2, 1) := by decide +kernel
theorem dX7_mixRow_35 : decode cX7_mixRow 35 = .ok (.iload_n 2, 1) := by decide +kernel
theorem dX7_mixRow_36 : decode cX7_mixRow 36 = .ok (.iconst 4, 1) := by decide +kernel
theorem dX7_mixRow_37 : decode cX7_mixRow 37 = .ok (.if_icmp .ge 20, 3) := by decide +kernel
theorem dX7_mixRow_40 : decode cX7_mixRow 40 = .ok (.aload_n 0, 1) := by decide +kernel
theorem dX7_mixRow_41 : decode cX7_mixRow 41 = .ok (.aload_n 0, 1) := by decide +kernel
theorem dX7_mixRow_42 : decode cX7_mixRow 42 = .ok (.iload_n 1, 1) := by decide +kernel
theorem dX7_mixRow_43 : decode cX7_mixRow 43 = .ok (.iload_n 2, 1) := by decide +kernel
theorem dX7_mixRow_44 : decode cX7_mixRow 44 = .ok (.invokevirtual 218, 3) := by decide +kernel
theorem dX7_mixRow_47 : decode cX7_mixRow 47 = .ok (.i2l, 1) := by decide +kernel
theorem dX7_mixRow_48 : decode cX7_mixRow 48 = .ok (.invokevirtual 259, 3) := by decide +kernel
theorem dX7_mixRow_51 : decode cX7_mixRow 51 = .ok (.iinc 2 1, 3) := by decide +kernel
theorem dX7_mixRow_54 : decode cX7_mixRow 54 = .ok (.goto (-19), 3) := by decide +kernel
theorem dX7_mixRow_57 : decode cX7_mixRow 57 = .ok (.iconst 0, 1) := by decide +kernel
theorem dX7_mixRow_58 : decode cX7_mixRow 58 = .ok (.istore_n 2, 1) := by decide +kernel
theorem dX7_mixRow_59 : decode cX7_mixRow 59 = .ok (.iload_n 2, 1) := by decide +kernel
theorem dX7_mixRow_60 : decode cX7_mixRow 60 = .ok (.iconst 3, 1) := by decide +kernel
theorem dX7_mixRow_61 : decode cX7_mixRow 61 = .ok (.if_icmp .ge 20, 3) := by decide +kernel
theorem dX7_mixRow_64 : decode cX7_mixRow 64 = .ok (.aload_n 0, 1) := by decide +kernel
theorem dX7_mixRow_65 : decode cX7_mixRow 65 = .ok (.aload_n 0, 1) := by decide +kernel
theorem dX7_mixRow_66 : decode cX7_mixRow 66 = .ok (.iload_n 1, 1) := by decide +kernel
theorem dX7_mixRow_67 : decode cX7_mixRow 67 = .ok (.iload_n 2, 1) := by decide +kernel
theorem dX7_mixRow_68 : decode cX7_mixRow 68 = .ok (.invokevirtual 221, 3) := by decide +kernel
theorem dX7_mixRow_71 : decode cX7_mixRow 71 = .ok (.i2l, 1) := by decide +kernel
theorem dX7_mixRow_72 : decode cX7_mixRow 72 = .ok (.invokevirtual 259, 3) := by decide +kernel
theorem dX7_mixRow_75 : decode cX7_mixRow 75 = .ok (.iinc 2 1, 3) := by decide +kernel
theorem dX7_mixRow_78 : decode cX7_mixRow 78 = .ok (.goto (-19), 3) := by decide +kernel
theorem dX7_mixRow_81 : decode cX7_mixRow 81 = .ok (.aload_n 0, 1) := by decide +kernel
theorem dX7_mixRow_82 : decode cX7_mixRow 82 = .ok (.aload_n 0, 1) := by decide +kernel
theorem dX7_mixRow_83 : decode cX7_mixRow 83 = .ok (.iload_n 1, 1) := by decide +kernel
theorem dX7_mixRow_84 : decode cX7_mixRow 84 = .ok (.invokevirtual 224, 3) := by decide +kernel
theorem dX7_mixRow_87 : decode cX7_mixRow 87 = .ok (.i2l, 1) := by decide +kernel
theorem dX7_mixRow_88 : decode cX7_mixRow 88 = .ok (.invokevirtual 259, 3) := by decide +kernel
theorem dX7_mixRow_91 : decode cX7_mixRow 91 = .ok (.iinc 1 1, 3) := by decide +kernel
theorem dX7_mixRow_94 : decode cX7_mixRow 94 = .ok (.goto (-92), 3) := by decide +kernel
theorem dX7_mixRow_97 : decode cX7_mixRow 97 = .ok (.iconst 0, 1) := by decide +kernel
theorem dX7_mixRow_98 : decode cX7_mixRow 98 = .ok (.istore_n 1, 1) := by decide +kernel
theorem dX7_mixRow_99 : decode cX7_mixRow 99 = .ok (.iload_n 1, 1) := by decide +kernel
theorem dX7_mixRow_100 : decode cX7_mixRow 100 = .ok (.bipush 7, 2) := by decide +kernel
theorem dX7_mixRow_102 : decode cX7_mixRow 102 = .ok (.if_icmp .ge 55, 3) := by decide +kernel
theorem dX7_mixRow_105 : decode cX7_mixRow 105 = .ok (.iconst 0, 1) := by decide +kernel
theorem dX7_mixRow_106 : decode cX7_mixRow 106 = .ok (.istore_n 2, 1) := by decide +kernel
theorem dX7_mixRow_107 : decode cX7_mixRow 107 = .ok (.iload_n 2, 1) := by decide +kernel
theorem dX7_mixRow_108 : decode cX7_mixRow 108 = .ok (.iconst 5, 1) := by decide +kernel
theorem dX7_mixRow_109 : decode cX7_mixRow 109 = .ok (.if_icmp .ge 20, 3) := by decide +kernel
theorem dX7_mixRow_112 : decode cX7_mixRow 112 = .ok (.aload_n 0, 1) := by decide +kernel
theorem dX7_mixRow_113 : decode cX7_mixRow 113 = .ok (.aload_n 0, 1) := by decide +kernel
theorem dX7_mixRow_114 : decode cX7_mixRow 114 = .ok (.iload_n 1, 1) := by decide +kernel
theorem dX7_mixRow_115 : decode cX7_mixRow 115 = .ok (.iload_n 2, 1) := by decide +kernel
theorem dX7_mixRow_116 : decode cX7_mixRow 116 = .ok (.invokevirtual 200, 3) := by decide +kernel
theorem dX7_mixRow_119 : decode cX7_mixRow 119 = .ok (.i2l, 1) := by decide +kernel
theorem dX7_mixRow_120 : decode cX7_mixRow 120 = .ok (.invokevirtual 259, 3) := by decide +kernel
theorem dX7_mixRow_123 : decode cX7_mixRow 123 = .ok (.iinc 2 1, 3) := by decide +kernel
theorem dX7_mixRow_126 : decode cX7_mixRow 126 = .ok (.goto (-19), 3) := by decide +kernel
theorem dX7_mixRow_129 : decode cX7_mixRow 129 = .ok (.aload_n 0, 1) := by decide +kernel
theorem dX7_mixRow_130 : decode cX7_mixRow 130 = .ok (.aload_n 0, 1) := by decide +kernel
theorem dX7_mixRow_131 : decode cX7_mixRow 131 = .ok (.iload_n 1, 1) := by decide +kernel
theorem dX7_mixRow_132 : decode cX7_mixRow 132 = .ok (.iconst 4, 1) := by decide +kernel
theorem dX7_mixRow_133 : decode cX7_mixRow 133 = .ok (.invokevirtual 218, 3) := by decide +kernel
theorem dX7_mixRow_136 : decode cX7_mixRow 136 = .ok (.i2l, 1) := by decide +kernel
theorem dX7_mixRow_137 : decode cX7_mixRow 137 = .ok (.invokevirtual 259, 3) := by decide +kernel
theorem dX7_mixRow_140 : decode cX7_mixRow 140 = .ok (.aload_n 0, 1) := by decide +kernel
theorem dX7_mixRow_141 : decode cX7_mixRow 141 = .ok (.aload_n 0, 1) := by decide +kernel
theorem dX7_mixRow_142 : decode cX7_mixRow 142 = .ok (.iload_n 1, 1) := by decide +kernel
theorem dX7_mixRow_143 : decode cX7_mixRow 143 = .ok (.iconst 5, 1) := by decide +kernel
theorem dX7_mixRow_144 : decode cX7_mixRow 144 = .ok (.invokevirtual 218, 3) := by decide +kernel
theorem dX7_mixRow_147 : decode cX7_mixRow 147 = .ok (.i2l, 1) := by decide +kernel
theorem dX7_mixRow_148 : decode cX7_mixRow 148 = .ok (.invokevirtual 259, 3) := by decide +kernel
theorem dX7_mixRow_151 : decode cX7_mixRow 151 = .ok (.iinc 1 1, 3) := by decide +kernel
theorem dX7_mixRow_154 : decode cX7_mixRow 154 = .ok (.goto (-55), 3) := by decide +kernel
theorem dX7_mixRow_157 : decode cX7_mixRow 157 = .ok (.return_, 1) := by decide +kernel
set_option maxRecDepth 20000 in
theorem ggX7_digest_X7_counted : GoodIn wsX7_digest wsX7_counted := goodIn_r _ [12, 4, 13, 14, 15, 16, 11, 17, 18, 19, 20, 21, 22, 23, 24, 25, 26, 27, 28, 29, 30, 31, 32, 33, 34, 35, 36, 37, 38, 39, 40, 41, 42, 43, 44, 45, 46, 47, 48, 49, 50, 51, 52, 53, 54, 55, 56, 57, 58, 59, 60, 61, 191, 192, 193, 194, 195, 196, 197, 198, 199, 200, 201, 202] (by decide +kernel) (by decide +kernel)
set_option maxRecDepth 20000 in
theorem gX7_digest_X7_counted : GoodIn wsX7_digest (wsV RX7 215 RX7 yX7_counted wsX7_counted) := goodIn_app (goodIn_of _ (by decide +kernel)) ggX7_digest_X7_counted
set_option maxRecDepth 20000 in
theorem ggX7_digest_X7_mix : GoodIn wsX7_digest wsX7_mix := goodIn_r _ [65, 66, 3, 191, 192, 193, 194, 195, 196, 197, 198, 199, 200, 201, 202] (by decide +kernel) (by decide +kernel)
set_option maxRecDepth 20000 in
theorem gX7_digest_X7_mix : GoodIn wsX7_digest (wsV RX7 259 RX7 yX7_mix wsX7_mix) := goodIn_app (goodIn_of _ (by decide +kernel)) ggX7_digest_X7_mix
set_option maxRecDepth 20000 in
theorem ggX7_digest_X7_mixRow : GoodIn wsX7_digest wsX7_mixRow := goodIn_r _ [70, 71, 72, 73, 11, 74, 4, 43, 44, 45, 46, 18, 19, 20, 21, 39, 40, 41, 42, 75, 76, 77, 78, 34, 35, 36, 37, 38, 26, 27, 28, 29, 47, 48, 49, 50, 51, 52, 53, 79, 80, 81, 82, 83, 84, 85, 86, 87, 88, 89, 90, 91, 92, 93, 94, 62, 63, 64, 65, 66, 3, 95, 96, 97, 98, 99, 100, 101, 102, 103, 104, 105, 106, 107, 108, 109, 110, 111, 112, 113, 114, 115, 116, 117, 118, 119, 120, 121, 122, 123, 124, 125, 126, 127, 128, 129, 130, 131, 132, 133, 134, 135, 136, 137, 30, 31, 32, 33, 138, 139, 140, 141, 142, 143, 144, 145, 146, 147, 148, 149, 150, 151, 152, 153, 154, 155, 156, 157, 158, 159, 160, 161, 191, 192, 193, 194, 195, 196, 197, 198, 199, 200, 201, 202] (by decide +kernel) (by decide +kernel)
set_option maxRecDepth 20000 in
theorem gX7_digest_X7_mixRow : GoodIn wsX7_digest (wsV RX7 265 RX7 yX7_mixRow wsX7_mixRow) := goodIn_app (goodIn_of _ (by decide +kernel)) ggX7_digest_X7_mixRow
set_option maxRecDepth 20000 in
theorem ggX7_digest_X7_snaps : GoodIn wsX7_digest wsX7_snaps := goodIn_r _ [165, 130, 131, 132, 11, 133, 4, 150, 151, 152, 153, 18, 19, 20, 21, 51, 52, 53, 134, 135, 136, 137, 154, 155, 156, 157, 35, 36, 37, 38, 34, 39, 40, 41, 42, 43, 44, 45, 46, 26, 27, 28, 29, 47, 48, 49, 50, 138, 139, 140, 141, 142, 143, 144, 145, 191, 192, 193, 194, 195, 196, 197, 198, 199, 200, 201, 202] (by decide +kernel) (by decide +kernel)
set_option maxRecDepth 20000 in
theorem gX7_digest_X7_snaps : GoodIn wsX7_digest (wsV RX7 227 RX7 yX7_snaps wsX7_snaps) := goodIn_app (goodIn_of _ (by decide +kernel)) ggX7_digest_X7_snaps
set_option maxRecDepth 20000 in
theorem ggX7_digest_X7_bagOf : GoodIn wsX7_digest wsX7_bagOf := goodIn_r _ [169, 126, 127, 128, 11, 129, 34, 18, 19, 20, 21, 4, 130, 131, 132, 133, 134, 135, 136, 137, 30, 31, 32, 33, 35, 36, 37, 38, 39, 40, 41, 42, 43, 44, 45, 46, 26, 27, 28, 29, 47, 48, 49, 50, 51, 52, 53, 138, 139, 140, 141, 142, 143, 144, 145, 191, 192, 193, 194, 195, 196, 197, 198, 199, 200, 201, 202] (by decide +kernel) (by decide +kernel)
set_option maxRecDepth 20000 in
theorem gX7_digest_X7_bagOf : GoodIn wsX7_digest (wsV RX7 230 RX7 yX7_bagOf wsX7_bagOf) := goodIn_app (goodIn_of _ (by decide +kernel)) ggX7_digest_X7_bagOf
set_option maxRecDepth 20000 in
theorem ggX7_digest_X7_mean : GoodIn wsX7_digest wsX7_mean := goodIn_r _ [173, 174, 30, 31, 32, 11, 33, 34, 35, 36, 37, 38, 39, 40, 41, 42, 43, 44, 45, 46, 18, 19, 20, 21, 4, 26, 27, 28, 29, 47, 48, 49, 50, 51, 52, 53, 191, 192, 193, 194, 195, 196, 197, 198, 199, 200, 201, 202] (by decide +kernel) (by decide +kernel)
set_option maxRecDepth 20000 in
theorem gX7_digest_X7_mean : GoodIn wsX7_digest (wsV RX7 235 RX7 yX7_mean wsX7_mean) := goodIn_app (goodIn_of _ (by decide +kernel)) ggX7_digest_X7_mean
set_option maxRecDepth 20000 in
theorem ggX7_digest_X7_bits : GoodIn wsX7_digest wsX7_bits := goodIn_r _ [177, 178, 179, 180, 181] (by decide +kernel) (by decide +kernel)
set_option maxRecDepth 20000 in
theorem gX7_digest_X7_bits : GoodIn wsX7_digest (va_wsS RX7 268 yX7_bits wsX7_bits) := goodIn_app (goodIn_of _ (by decide +kernel)) ggX7_digest_X7_bits
set_option maxRecDepth 20000 in
theorem ggX7_digest_X7_lost : GoodIn wsX7_digest wsX7_lost := goodIn_r _ [185, 4, 191, 192, 193, 194, 195, 196, 197, 198, 199, 200, 201, 202] (by decide +kernel) (by decide +kernel)
set_option maxRecDepth 20000 in
theorem gX7_digest_X7_lost : GoodIn wsX7_digest (wsV RX7 239 RX7 yX7_lost wsX7_lost) := goodIn_app (goodIn_of _ (by decide +kernel)) ggX7_digest_X7_lost
set_option maxRecDepth 20000 in
theorem ggX7_digest_X7_floatBits : GoodIn wsX7_digest wsX7_floatBits := goodIn_r _ [188, 189, 190] (by decide +kernel) (by decide +kernel)
set_option maxRecDepth 20000 in
theorem gX7_digest_X7_floatBits : GoodIn wsX7_digest (va_wsS RX7 272 yX7_floatBits wsX7_floatBits) := goodIn_app (goodIn_of _ (by decide +kernel)) ggX7_digest_X7_floatBits
theorem dX7_digest_0 : decode cX7_digest 0 = .ok (.aload_n 0, 1) := by decide +kernel
theorem dX7_digest_1 : decode cX7_digest 1 = .ok (.iconst 0, 1) := by decide +kernel
theorem dX7_digest_2 : decode cX7_digest 2 = .ok (.putfield 19, 3) := by decide +kernel
theorem dX7_digest_5 : decode cX7_digest 5 = .ok (.aload_n 0, 1) := by decide +kernel
theorem dX7_digest_6 : decode cX7_digest 6 = .ok (.ldc2_w 263, 3) := by decide +kernel
theorem dX7_digest_9 : decode cX7_digest 9 = .ok (.putfield 245, 3) := by decide +kernel
theorem dX7_digest_12 : decode cX7_digest 12 = .ok (.iconst 0, 1) := by decide +kernel
theorem dX7_digest_13 : decode cX7_digest 13 = .ok (.istore_n 1, 1) := by decide +kernel
theorem dX7_digest_14 : decode cX7_digest 14 = .ok (.iload_n 1, 1) := by decide +kernel
theorem dX7_digest_15 : decode cX7_digest 15 = .ok (.bipush 15, 2) := by decide +kernel
theorem dX7_digest_17 : decode cX7_digest 17 = .ok (.if_icmp .ge 19, 3) := by decide +kernel
theorem dX7_digest_20 : decode cX7_digest 20 = .ok (.aload_n 0, 1) := by decide +kernel
theorem dX7_digest_21 : decode cX7_digest 21 = .ok (.aload_n 0, 1) := by decide +kernel
theorem dX7_digest_22 : decode cX7_digest 22 = .ok (.iload_n 1, 1) := by decide +kernel
theorem dX7_digest_23 : decode cX7_digest 23 = .ok (.invokevirtual 215, 3) := by decide +kernel
theorem dX7_digest_26 : decode cX7_digest 26 = .ok (.i2l, 1) := by decide +kernel
theorem dX7_digest_27 : decode cX7_digest 27 = .ok (.invokevirtual 259, 3) := by decide +kernel
theorem dX7_digest_30 : decode cX7_digest 30 = .ok (.iinc 1 1, 3) := by decide +kernel
theorem dX7_digest_33 : decode cX7_digest 33 = .ok (.goto (-19), 3) := by decide +kernel
theorem dX7_digest_36 : decode cX7_digest 36 = .ok (.aload_n 0, 1) := by decide +kernel
theorem dX7_digest_37 : decode cX7_digest 37 = .ok (.invokevirtual 265, 3) := by decide +kernel
theorem dX7_digest_40 : decode cX7_digest 40 = .ok (.iconst 0, 1) := by decide +kernel
theorem dX7_digest_41 : decode cX7_digest 41 = .ok (.istore_n 1, 1) := by decide +kernel
theorem dX7_digest_42 : decode cX7_digest 42 = .ok (.iload_n 1, 1) := by decide +kernel
theorem dX7_digest_43 : decode cX7_digest 43 = .ok (.iconst 3, 1) := by decide +kernel
theorem dX7_digest_44 : decode cX7_digest 44 = .ok (.aload_n 0, 1) := by decide +kernel
theorem dX7_digest_45 : decode cX7_digest 45 = .ok (.getfield 7, 3) := by decide +kernel
theorem dX7_digest_48 : decode cX7_digest 48 = .ok (.bipush 8, 2) := by decide +kernel
theorem dX7_digest_50 : decode cX7_digest 50 = .ok (.iaload, 1) := by decide +kernel
theorem dX7_digest_51 : decode cX7_digest 51 = .ok (.imul, 1) := by decide +kernel
theorem dX7_digest_52 : decode cX7_digest 52 = .ok (.if_icmp .ge 23, 3) := by decide +kernel
theorem dX7_digest_55 : decode cX7_digest 55 = .ok (.aload_n 0, 1) := by decide +kernel
theorem dX7_digest_56 : decode cX7_digest 56 = .ok (.aload_n 0, 1) := by decide +kernel
theorem dX7_digest_57 : decode cX7_digest 57 = .ok (.getfield 7, 3) := by decide +kernel
theorem dX7_digest_60 : decode cX7_digest 60 = .ok (.bipush 70, 2) := by decide +kernel
theorem dX7_digest_62 : decode cX7_digest 62 = .ok (.iload_n 1, 1) := by decide +kernel
theorem dX7_digest_63 : decode cX7_digest 63 = .ok (.iadd, 1) := by decide +kernel
theorem dX7_digest_64 : decode cX7_digest 64 = .ok (.iaload, 1) := by decide +kernel
theorem dX7_digest_65 : decode cX7_digest 65 = .ok (.i2l, 1) := by decide +kernel
theorem dX7_digest_66 : decode cX7_digest 66 = .ok (.invokevirtual 259, 3) := by decide +kernel
theorem dX7_digest_69 : decode cX7_digest 69 = .ok (.iinc 1 1, 3) := by decide +kernel
theorem dX7_digest_72 : decode cX7_digest 72 = .ok (.goto (-30), 3) := by decide +kernel
theorem dX7_digest_75 : decode cX7_digest 75 = .ok (.aload_n 0, 1) := by decide +kernel
theorem dX7_digest_76 : decode cX7_digest 76 = .ok (.aload_n 0, 1) := by decide +kernel
theorem dX7_digest_77 : decode cX7_digest 77 = .ok (.getfield 7, 3) := by decide +kernel
theorem dX7_digest_80 : decode cX7_digest 80 = .ok (.bipush 6, 2) := by decide +kernel
theorem dX7_digest_82 : decode cX7_digest 82 = .ok (.iaload, 1) := by decide +kernel
theorem dX7_digest_83 : decode cX7_digest 83 = .ok (.i2l, 1) := by decide +kernel
theorem dX7_digest_84 : decode cX7_digest 84 = .ok (.invokevirtual 259, 3) := by decide +kernel
theorem dX7_digest_87 : decode cX7_digest 87 = .ok (.aload_n 0, 1) := by decide +kernel
theorem dX7_digest_88 : decode cX7_digest 88 = .ok (.aload_n 0, 1) := by decide +kernel
theorem dX7_digest_89 : decode cX7_digest 89 = .ok (.getfield 7, 3) := by decide +kernel
theorem dX7_digest_92 : decode cX7_digest 92 = .ok (.bipush 7, 2) := by decide +kernel
theorem dX7_digest_94 : decode cX7_digest 94 = .ok (.iaload, 1) := by decide +kernel
theorem dX7_digest_95 : decode cX7_digest 95 = .ok (.i2l, 1) := by decide +kernel
theorem dX7_digest_96 : decode cX7_digest 96 = .ok (.invokevirtual 259, 3) := by decide +kernel
theorem dX7_digest_99 : decode cX7_digest 99 = .ok (.aload_n 0, 1) := by decide +kernel
theorem dX7_digest_100 : decode cX7_digest 100 = .ok (.aload_n 0, 1) := by decide +kernel
theorem dX7_digest_101 : decode cX7_digest 101 = .ok (.invokevirtual 227, 3) := by decide +kernel
theorem dX7_digest_104 : decode cX7_digest 104 = .ok (.i2l, 1) := by decide +kernel
theorem dX7_digest_105 : decode cX7_digest 105 = .ok (.invokevirtual 259, 3) := by decide +kernel
theorem dX7_digest_108 : decode cX7_digest 108 = .ok (.aload_n 0, 1) := by decide +kernel
theorem dX7_digest_109 : decode cX7_digest 109 = .ok (.aload_n 0, 1) := by decide +kernel
theorem dX7_digest_110 : decode cX7_digest 110 = .ok (.invokevirtual 230, 3) := by decide +kernel
theorem dX7_digest_113 : decode cX7_digest 113 = .ok (.i2l, 1) := by decide +kernel
theorem dX7_digest_114 : decode cX7_digest 114 = .ok (.invokevirtual 259, 3) := by decide +kernel
theorem dX7_digest_117 : decode cX7_digest 117 = .ok (.aload_n 0, 1) := by decide +kernel
theorem dX7_digest_118 : decode cX7_digest 118 = .ok (.aload_n 0, 1) := by decide +kernel
theorem dX7_digest_119 : decode cX7_digest 119 = .ok (.invokevirtual 235, 3) := by decide +kernel
theorem dX7_digest_122 : decode cX7_digest 122 = .ok (.invokestatic 268, 3) := by decide +kernel
theorem dX7_digest_125 : decode cX7_digest 125 = .ok (.invokevirtual 259, 3) := by decide +kernel
theorem dX7_digest_128 : decode cX7_digest 128 = .ok (.aload_n 0, 1) := by decide +kernel
theorem dX7_digest_129 : decode cX7_digest 129 = .ok (.aload_n 0, 1) := by decide +kernel
theorem dX7_digest_130 : decode cX7_digest 130 = .ok (.invokevirtual 239, 3) := by decide +kernel
theorem dX7_digest_133 : decode cX7_digest 133 = .ok (.invokestatic 272, 3) := by decide +kernel
theorem dX7_digest_136 : decode cX7_digest 136 = .ok (.i2l, 1) := by decide +kernel
theorem dX7_digest_137 : decode cX7_digest 137 = .ok (.invokevirtual 259, 3) := by decide +kernel
theorem dX7_digest_140 : decode cX7_digest 140 = .ok (.aload_n 0, 1) := by decide +kernel
theorem dX7_digest_141 : decode cX7_digest 141 = .ok (.aload_n 0, 1) := by decide +kernel
theorem dX7_digest_142 : decode cX7_digest 142 = .ok (.getfield 193, 3) := by decide +kernel
theorem dX7_digest_145 : decode cX7_digest 145 = .ok (.ifCond .eq 7, 3) := by decide +kernel
theorem dX7_digest_148 : decode cX7_digest 148 = .ok (.lconst 1, 1) := by decide +kernel
theorem dX7_digest_149 : decode cX7_digest 149 = .ok (.goto 4, 3) := by decide +kernel
theorem dX7_digest_152 : decode cX7_digest 152 = .ok (.lconst 0, 1) := by decide +kernel
theorem dX7_digest_153 : decode cX7_digest 153 = .ok (.invokevirtual 259, 3) := by decide +kernel
theorem dX7_digest_156 : decode cX7_digest 156 = .ok (.aload_n 0, 1) := by decide +kernel
theorem dX7_digest_157 : decode cX7_digest 157 = .ok (.aload_n 0, 1) := by decide +kernel
theorem dX7_digest_158 : decode cX7_digest 158 = .ok (.getfield 152, 3) := by decide +kernel
theorem dX7_digest_161 : decode cX7_digest 161 = .ok (.i2l, 1) := by decide +kernel
theorem dX7_digest_162 : decode cX7_digest 162 = .ok (.invokevirtual 259, 3) := by decide +kernel
theorem dX7_digest_165 : decode cX7_digest 165 = .ok (.iconst 0, 1) := by decide +kernel
theorem dX7_digest_166 : decode cX7_digest 166 = .ok (.istore_n 1, 1) := by decide +kernel
theorem dX7_digest_167 : decode cX7_digest 167 = .ok (.iload_n 1, 1) := by decide +kernel
theorem dX7_digest_168 : decode cX7_digest 168 = .ok (.aload_n 0, 1) := by decide +kernel
theorem dX7_digest_169 : decode cX7_digest 169 = .ok (.getfield 152, 3) := by decide +kernel
theorem dX7_digest_172 : decode cX7_digest 172 = .ok (.if_icmp .ge 20, 3) := by decide +kernel
theorem dX7_digest_175 : decode cX7_digest 175 = .ok (.aload_n 0, 1) := by decide +kernel
theorem dX7_digest_176 : decode cX7_digest 176 = .ok (.aload_n 0, 1) := by decide +kernel
theorem dX7_digest_177 : decode cX7_digest 177 = .ok (.getfield 13, 3) := by decide +kernel
theorem dX7_digest_180 : decode cX7_digest 180 = .ok (.iload_n 1, 1) := by decide +kernel
theorem dX7_digest_181 : decode cX7_digest 181 = .ok (.iaload, 1) := by decide +kernel
theorem dX7_digest_182 : decode cX7_digest 182 = .ok (.i2l, 1) := by decide +kernel
theorem dX7_digest_183 : decode cX7_digest 183 = .ok (.invokevirtual 259, 3) := by decide +kernel
theorem dX7_digest_186 : decode cX7_digest 186 = .ok (.iinc 1 1, 3) := by decide +kernel
theorem dX7_digest_189 : decode cX7_digest 189 = .ok (.goto (-22), 3) := by decide +kernel
theorem dX7_digest_192 : decode cX7_digest 192 = .ok (.aload_n 0, 1) := by decide +kernel
theorem dX7_digest_193 : decode cX7_digest 193 = .ok (.getfield 245, 3) := by decide +kernel
theorem dX7_digest_196 : decode cX7_digest 196 = .ok (.lreturn, 1) := by decide +kernel
