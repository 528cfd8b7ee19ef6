set_option maxRecDepth 20000 in
theorem ggX0_init_J7_fill_53178 : GoodIn wsX0_init wsJ7_fill_53178 := goodIn_r _ [16] (by decide +kernel) (by decide +kernel)
set_option maxRecDepth 20000 in
theorem gX0_init_J7_fill_53178 : GoodIn wsX0_init (va_wsS RX0 34 yJ7_fill_53178 wsJ7_fill_53178) := goodIn_app (goodIn_of _ (by decide +kernel)) ggX0_init_J7_fill_53178
set_option maxRecDepth 20000 in
theorem ggX0_init_X0_mendHeights : GoodIn wsX0_init wsX0_mendHeights := goodIn_r _ [21, 12, 22, 23, 24, 20, 25, 26, 27, 28, 29, 30, 31, 32, 33, 34, 35, 36, 5, 6, 37, 38, 39, 40, 9, 10, 41, 42, 43, 44, 45, 46, 47] (by decide +kernel) (by decide +kernel)
set_option maxRecDepth 20000 in
theorem gX0_init_X0_mendHeights : GoodIn wsX0_init (wsV RX0 40 RX0 yX0_mendHeights wsX0_mendHeights) := goodIn_app (goodIn_of _ (by decide +kernel)) ggX0_init_X0_mendHeights
theorem dX0_init_0 : decode cX0_init 0 = .ok (.aload_n 0, 1) := by decide +kernel
theorem dX0_init_1 : decode cX0_init 1 = .ok (.invokespecial 3, 3) := by decide +kernel
theorem dX0_init_4 : decode cX0_init 4 = .ok (.aload_n 0, 1) := by decide +kernel
theorem dX0_init_5 : decode cX0_init 5 = .ok (.bipush 8, 2) := by decide +kernel
theorem dX0_init_7 : decode cX0_init 7 = .ok (.newarray .int, 2) := by decide +kernel
theorem dX0_init_9 : decode cX0_init 9 = .ok (.putfield 9, 3) := by decide +kernel
theorem dX0_init_12 : decode cX0_init 12 = .ok (.aload_n 0, 1) := by decide +kernel
theorem dX0_init_13 : decode cX0_init 13 = .ok (.bipush 8, 2) := by decide +kernel
theorem dX0_init_15 : decode cX0_init 15 = .ok (.newarray .int, 2) := by decide +kernel
theorem dX0_init_17 : decode cX0_init 17 = .ok (.putfield 15, 3) := by decide +kernel
theorem dX0_init_20 : decode cX0_init 20 = .ok (.aload_n 0, 1) := by decide +kernel
theorem dX0_init_21 : decode cX0_init 21 = .ok (.bipush 8, 2) := by decide +kernel
theorem dX0_init_23 : decode cX0_init 23 = .ok (.newarray .int, 2) := by decide +kernel
theorem dX0_init_25 : decode cX0_init 25 = .ok (.putfield 18, 3) := by decide +kernel
theorem dX0_init_28 : decode cX0_init 28 = .ok (.aload_n 0, 1) := by decide +kernel
theorem dX0_init_29 : decode cX0_init 29 = .ok (.bipush 7, 2) := by decide +kernel
theorem dX0_init_31 : decode cX0_init 31 = .ok (.newarray .boolean, 2) := by decide +kernel
theorem dX0_init_33 : decode cX0_init 33 = .ok (.putfield 21, 3) := by decide +kernel
theorem dX0_init_36 : decode cX0_init 36 = .ok (.aload_n 0, 1) := by decide +kernel
theorem dX0_init_37 : decode cX0_init 37 = .ok (.bipush 7, 2) := by decide +kernel
theorem dX0_init_39 : decode cX0_init 39 = .ok (.newarray .int, 2) := by decide +kernel
theorem dX0_init_41 : decode cX0_init 41 = .ok (.putfield 25, 3) := by decide +kernel
theorem dX0_init_44 : decode cX0_init 44 = .ok (.aload_n 0, 1) := by decide +kernel
theorem dX0_init_45 : decode cX0_init 45 = .ok (.bipush 7, 2) := by decide +kernel
theorem dX0_init_47 : decode cX0_init 47 = .ok (.newarray .int, 2) := by decide +kernel
theorem dX0_init_49 : decode cX0_init 49 = .ok (.putfield 28, 3) := by decide +kernel
theorem dX0_init_52 : decode cX0_init 52 = .ok (.aload_n 0, 1) := by decide +kernel
theorem dX0_init_53 : decode cX0_init 53 = .ok (.bipush 8, 2) := by decide +kernel
theorem dX0_init_55 : decode cX0_init 55 = .ok (.newarray .int, 2) := by decide +kernel
theorem dX0_init_57 : decode cX0_init 57 = .ok (.putfield 31, 3) := by decide +kernel
theorem dX0_init_60 : decode cX0_init 60 = .ok (.aload_n 0, 1) := by decide +kernel
theorem dX0_init_61 : decode cX0_init 61 = .ok (.getfield 9, 3) := by decide +kernel
theorem dX0_init_64 : decode cX0_init 64 = .ok (.bipush 60, 2) := by decide +kernel
theorem dX0_init_66 : decode cX0_init 66 = .ok (.invokestatic 34, 3) := by decide +kernel
theorem dX0_init_69 : decode cX0_init 69 = .ok (.aload_n 0, 1) := by decide +kernel
theorem dX0_init_70 : decode cX0_init 70 = .ok (.getfield 15, 3) := by decide +kernel
theorem dX0_init_73 : decode cX0_init 73 = .ok (.iconst 4, 1) := by decide +kernel
theorem dX0_init_74 : decode cX0_init 74 = .ok (.invokestatic 34, 3) := by decide +kernel
theorem dX0_init_77 : decode cX0_init 77 = .ok (.aload_n 0, 1) := by decide +kernel
theorem dX0_init_78 : decode cX0_init 78 = .ok (.getfield 18, 3) := by decide +kernel
theorem dX0_init_81 : decode cX0_init 81 = .ok (.iconst 1, 1) := by decide +kernel
theorem dX0_init_82 : decode cX0_init 82 = .ok (.invokestatic 34, 3) := by decide +kernel
theorem dX0_init_85 : decode cX0_init 85 = .ok (.iconst 0, 1) := by decide +kernel
theorem dX0_init_86 : decode cX0_init 86 = .ok (.istore_n 1, 1) := by decide +kernel
theorem dX0_init_87 : decode cX0_init 87 = .ok (.iload_n 1, 1) := by decide +kernel
theorem dX0_init_88 : decode cX0_init 88 = .ok (.bipush 7, 2) := by decide +kernel
theorem dX0_init_90 : decode cX0_init 90 = .ok (.if_icmp .ge 16, 3) := by decide +kernel
theorem dX0_init_93 : decode cX0_init 93 = .ok (.aload_n 0, 1) := by decide +kernel
theorem dX0_init_94 : decode cX0_init 94 = .ok (.getfield 21, 3) := by decide +kernel
theorem dX0_init_97 : decode cX0_init 97 = .ok (.iload_n 1, 1) := by decide +kernel
theorem dX0_init_98 : decode cX0_init 98 = .ok (.iconst 1, 1) := by decide +kernel
theorem dX0_init_99 : decode cX0_init 99 = .ok (.bastore, 1) := by decide +kernel
theorem dX0_init_100 : decode cX0_init 100 = .ok (.iinc 1 1, 3) := by decide +kernel
theorem dX0_init_103 : decode cX0_init 103 = .ok (.goto (-16), 3) := by decide +kernel
theorem dX0_init_106 : decode cX0_init 106 = .ok (.aload_n 0, 1) := by decide +kernel
theorem dX0_init_107 : decode cX0_init 107 = .ok (.getfield 25, 3) := by decide +kernel
theorem dX0_init_110 : decode cX0_init 110 = .ok (.bipush 100, 2) := by decide +kernel
theorem dX0_init_112 : decode cX0_init 112 = .ok (.invokestatic 34, 3) := by decide +kernel
theorem dX0_init_115 : decode cX0_init 115 = .ok (.aload_n 0, 1) := by decide +kernel
theorem dX0_init_116 : decode cX0_init 116 = .ok (.getfield 28, 3) := by decide +kernel
theorem dX0_init_119 : decode cX0_init 119 = .ok (.sipush 150, 3) := by decide +kernel
theorem dX0_init_122 : decode cX0_init 122 = .ok (.invokestatic 34, 3) := by decide +kernel
theorem dX0_init_125 : decode cX0_init 125 = .ok (.aload_n 0, 1) := by decide +kernel
theorem dX0_init_126 : decode cX0_init 126 = .ok (.invokevirtual 40, 3) := by decide +kernel
theorem dX0_init_129 : decode cX0_init 129 = .ok (.return_, 1) := by decide +kernel
theorem dX0_copyFrom_0 : decode cX0_copyFrom 0 = .ok (.aload_n 1, 1) := by decide +kernel
theorem dX0_copyFrom_1 : decode cX0_copyFrom 1 = .ok (.getfield 9, 3) := by decide +kernel
theorem dX0_copyFrom_4 : decode cX0_copyFrom 4 = .ok (.iconst 0, 1) := by decide +kernel
theorem dX0_copyFrom_5 : decode cX0_copyFrom 5 = .ok (.aload_n 0, 1) := by decide +kernel
theorem dX0_copyFrom_6 : decode cX0_copyFrom 6 = .ok (.getfield 9, 3) := by decide +kernel
theorem dX0_copyFrom_9 : decode cX0_copyFrom 9 = .ok (.iconst 0, 1) := by decide +kernel
theorem dX0_copyFrom_10 : decode cX0_copyFrom 10 = .ok (.bipush 8, 2) := by decide +kernel
theorem dX0_copyFrom_12 : decode cX0_copyFrom 12 = .ok (.invokestatic 43, 3) := by decide +kernel
theorem dX0_copyFrom_15 : decode cX0_copyFrom 15 = .ok (.aload_n 1, 1) := by decide +kernel
theorem dX0_copyFrom_16 : decode cX0_copyFrom 16 = .ok (.getfield 15, 3) := by decide +kernel
theorem dX0_copyFrom_19 : decode cX0_copyFrom 19 = .ok (.iconst 0, 1) := by decide +kernel
theorem dX0_copyFrom_20 : decode cX0_copyFrom 20 = .ok (.aload_n 0, 1) := by decide +kernel
theorem dX0_copyFrom_21 : decode cX0_copyFrom 21 = .ok (.getfield 15, 3) := by decide +kernel
theorem dX0_copyFrom_24 : decode cX0_copyFrom 24 = .ok (.iconst 0, 1) := by decide +kernel
theorem dX0_copyFrom_25 : decode cX0_copyFrom 25 = .ok (.bipush 8, 2) := by decide +kernel
theorem dX0_copyFrom_27 : decode cX0_copyFrom 27 = .ok (.invokestatic 43, 3) := by decide +kernel
theorem dX0_copyFrom_30 : decode cX0_copyFrom 30 = .ok (.aload_n 1, 1) := by decide +kernel
theorem dX0_copyFrom_31 : decode cX0_copyFrom 31 = .ok (.getfield 18, 3) := by decide +kernel
theorem dX0_copyFrom_34 : decode cX0_copyFrom 34 = .ok (.iconst 0, 1) := by decide +kernel
theorem dX0_copyFrom_35 : decode cX0_copyFrom 35 = .ok (.aload_n 0, 1) := by decide +kernel
theorem dX0_copyFrom_36 : decode cX0_copyFrom 36 = .ok (.getfield 18, 3) := by decide +kernel
theorem dX0_copyFrom_39 : decode cX0_copyFrom 39 = .ok (.iconst 0, 1) := by decide +kernel
theorem dX0_copyFrom_40 : decode cX0_copyFrom 40 = .ok (.bipush 8, 2) := by decide +kernel
theorem dX0_copyFrom_42 : decode cX0_copyFrom 42 = .ok (.invokestatic 43, 3) := by decide +kernel
theorem dX0_copyFrom_45 : decode cX0_copyFrom 45 = .ok (.aload_n 1, 1) := by decide +kernel
theorem dX0_copyFrom_46 : decode cX0_copyFrom 46 = .ok (.getfield 21, 3) := by decide +kernel
theorem dX0_copyFrom_49 : decode cX0_copyFrom 49 = .ok (.iconst 0, 1) := by decide +kernel
theorem dX0_copyFrom_50 : decode cX0_copyFrom 50 = .ok (.aload_n 0, 1) := by decide +kernel
theorem dX0_copyFrom_51 : decode cX0_copyFrom 51 = .ok (.getfield 21, 3) := by decide +kernel
theorem dX0_copyFrom_54 : decode cX0_copyFrom 54 = .ok (.iconst 0, 1) := by decide +kernel
theorem dX0_copyFrom_55 : decode cX0_copyFrom 55 = .ok (.bipush 7, 2) := by decide +kernel
theorem dX0_copyFrom_57 : decode cX0_copyFrom 57 = .ok (.invokestatic 43, 3) := by decide +kernel
theorem dX0_copyFrom_60 : decode cX0_copyFrom 60 = .ok (.aload_n 1, 1) := by decide +kernel
theorem dX0_copyFrom_61 : decode cX0_copyFrom 61 = .ok (.getfield 25, 3) := by decide +kernel
theorem dX0_copyFrom_64 : decode cX0_copyFrom 64 = .ok (.iconst 0, 1) := by decide +kernel
theorem dX0_copyFrom_65 : decode cX0_copyFrom 65 = .ok (.aload_n 0, 1) := by decide +kernel
theorem dX0_copyFrom_66 : decode cX0_copyFrom 66 = .ok (.getfield 25, 3) := by decide +kernel
theorem dX0_copyFrom_69 : decode cX0_copyFrom 69 = .ok (.iconst 0, 1) := by decide +kernel
theorem dX0_copyFrom_70 : decode cX0_copyFrom 70 = .ok (.bipush 7, 2) := by decide +kernel
theorem dX0_copyFrom_72 : decode cX0_copyFrom 72 = .ok (.invokestatic 43, 3) := by decide +kernel
theorem dX0_copyFrom_75 : decode cX0_copyFrom 75 = .ok (.aload_n 1, 1) := by decide +kernel
theorem dX0_copyFrom_76 : decode cX0_copyFrom 76 = .ok (.getfield 28, 3) := by decide +kernel
theorem dX0_copyFrom_79 : decode cX0_copyFrom 79 = .ok (.iconst 0, 1) := by decide +kernel
theorem dX0_copyFrom_80 : decode cX0_copyFrom 80 = .ok (.aload_n 0, 1) := by decide +kernel
theorem dX0_copyFrom_81 : decode cX0_copyFrom 81 = .ok (.getfield 28, 3) := by decide +kernel
theorem dX0_copyFrom_84 : decode cX0_copyFrom 84 = .ok (.iconst 0, 1) := by decide +kernel
theorem dX0_copyFrom_85 : decode cX0_copyFrom 85 = .ok (.bipush 7, 2) := by decide +kernel
theorem dX0_copyFrom_87 : decode cX0_copyFrom 87 = .ok (.invokestatic 43, 3) := by decide +kernel
theorem dX0_copyFrom_90 : decode cX0_copyFrom 90 = .ok (.aload_n 1, 1) := by decide +kernel
theorem dX0_copyFrom_91 : decode cX0_copyFrom 91 = .ok (.getfield 31, 3) := by decide +kernel
theorem dX0_copyFrom_94 : decode cX0_copyFrom 94 = .ok (.iconst 0, 1) := by decide +kernel
theorem dX0_copyFrom_95 : decode cX0_copyFrom 95 = .ok (.aload_n 0, 1) := by decide +kernel
theorem dX0_copyFrom_96 : decode cX0_copyFrom 96 = .ok (.getfield 31, 3) := by decide +kernel
theorem dX0_copyFrom_99 : decode cX0_copyFrom 99 = .ok (.iconst 0, 1) := by decide +kernel
theorem dX0_copyFrom_100 : decode cX0_copyFrom 100 = .ok (.bipush 8, 2) := by decide +kernel
theorem dX0_copyFrom_102 : decode cX0_copyFrom 102 = .ok (.invokestatic 43, 3) := by decide +kernel
theorem dX0_copyFrom_105 : decode cX0_copyFrom 105 = .ok (.return_, 1) := by decide +kernel
theorem dX0_lift_0 : decode cX0_lift 0 = .ok (.aload_n 0, 1) := by decide +kernel
theorem dX0_lift_1 : decode cX0_lift 1 = .ok (.getfield 9, 3) := by decide +kernel
theorem dX0_lift_4 : decode cX0_lift 4 = .ok (.iload_n 1, 1) := by decide +kernel
theorem dX0_lift_5 : decode cX0_lift 5 = .ok (.iaload, 1) := by decide +kernel
theorem dX0_lift_6 : decode cX0_lift 6 = .ok (.bipush 10, 2) := by decide +kernel
theorem dX0_lift_8 : decode cX0_lift 8 = .ok (.isub, 1) := by decide +kernel
theorem dX0_lift_9 : decode cX0_lift 9 = .ok (.iconst 5, 1) := by decide +kernel
theorem dX0_lift_10 : decode cX0_lift 10 = .ok (.aload_n 0, 1) := by decide +kernel
theorem dX0_lift_11 : decode cX0_lift 11 = .ok (.getfield 15, 3) := by decide +kernel
theorem dX0_lift_14 : decode cX0_lift 14 = .ok (.iload_n 1, 1) := by decide +kernel
theorem dX0_lift_15 : decode cX0_lift 15 = .ok (.iaload, 1) := by decide +kernel
theorem dX0_lift_16 : decode cX0_lift 16 = .ok (.imul, 1) := by decide +kernel
theorem dX0_lift_17 : decode cX0_lift 17 = .ok (.isub, 1) := by decide +kernel
theorem dX0_lift_18 : decode cX0_lift 18 = .ok (.ireturn, 1) := by decide +kernel
set_option maxRecDepth 20000 in
theorem ggX0_wanted_X0_lift : GoodIn wsX0_wanted wsX0_lift := goodIn_r _ [12, 13, 14, 15, 16, 17, 18, 19, 20, 21] (by decide +kernel) (by decide +kernel)
set_option maxRecDepth 20000 in
theorem gX0_wanted_X0_lift : GoodIn wsX0_wanted (wsV RX0 49 RX0 yX0_lift wsX0_lift) := goodIn_app (goodIn_of _ (by decide +kernel)) ggX0_wanted_X0_lift
theorem dX0_wanted_0 : decode cX0_wanted 0 = .ok (.bipush 10, 2) := by decide +kernel
theorem dX0_wanted_2 : decode cX0_wanted 2 = .ok (.aload_n 0, 1) := by decide +kernel
theorem dX0_wanted_3 : decode cX0_wanted 3 = .ok (.iload_n 1, 1) := by decide +kernel
theorem dX0_wanted_4 : decode cX0_wanted 4 = .ok (.invokevirtual 49, 3) := by decide +kernel
theorem dX0_wanted_7 : decode cX0_wanted 7 = .ok (.imul, 1) := by decide +kernel
theorem dX0_wanted_8 : decode cX0_wanted 8 = .ok (.istore_n 2, 1) := by decide +kernel
theorem dX0_wanted_9 : decode cX0_wanted 9 = .ok (.iconst 0, 1) := by decide +kernel
theorem dX0_wanted_10 : decode cX0_wanted 10 = .ok (.sipush 999, 3) := by decide +kernel
theorem dX0_wanted_13 : decode cX0_wanted 13 = .ok (.iload_n 2, 1) := by decide +kernel
theorem dX0_wanted_14 : decode cX0_wanted 14 = .ok (.invokestatic 53, 3) := by decide +kernel
theorem dX0_wanted_17 : decode cX0_wanted 17 = .ok (.invokestatic 59, 3) := by decide +kernel
theorem dX0_wanted_20 : decode cX0_wanted 20 = .ok (.ireturn, 1) := by decide +kernel
set_option maxRecDepth 20000 in
theorem ggX0_mendHeights_X0_wanted : GoodIn wsX0_mendHeights wsX0_wanted := goodIn_r _ [6, 7, 8, 9, 10, 11, 12, 13, 14, 15, 16, 5, 17, 18, 19, 26, 27, 28, 29, 30, 31, 32] (by decide +kernel) (by decide +kernel)
set_option maxRecDepth 20000 in
theorem gX0_mendHeights_X0_wanted : GoodIn wsX0_mendHeights (wsV RX0 62 RX0 yX0_wanted wsX0_wanted) := goodIn_app (goodIn_of _ (by decide +kernel)) ggX0_mendHeights_X0_wanted
set_option maxRecDepth 20000 in
theorem ggX0_mendHeights_X0_comeDown : GoodIn wsX0_mendHeights wsX0_comeDown := goodIn_r _ [23, 24, 1, 25, 7, 8, 9, 10, 26, 27, 28, 29, 30, 31, 32] (by decide +kernel) (by decide +kernel)
set_option maxRecDepth 20000 in
theorem gX0_mendHeights_X0_comeDown : GoodIn wsX0_mendHeights (wsV RX0 65 RX0 yX0_comeDown wsX0_comeDown) := goodIn_app (goodIn_of _ (by decide +kernel)) ggX0_mendHeights_X0_comeDown
theorem dX0_mendHeights_0 : decode cX0_mendHeights 0 = .ok (.iconst 0, 1) := by decide +kernel
theorem dX0_mendHeights_1 : decode cX0_mendHeights 1 = .ok (.istore_n 1, 1) := by decide +kernel
theorem dX0_mendHeights_2 : decode cX0_mendHeights 2 = .ok (.iload_n 1, 1) := by decide +kernel
theorem dX0_mendHeights_3 : decode cX0_mendHeights 3 = .ok (.bipush 8, 2) := by decide +kernel
theorem dX0_mendHeights_5 : decode cX0_mendHeights 5 = .ok (.if_icmp .ge 20, 3) := by decide +kernel
theorem dX0_mendHeights_8 : decode cX0_mendHeights 8 = .ok (.aload_n 0, 1) := by decide +kernel
theorem dX0_mendHeights_9 : decode cX0_mendHeights 9 = .ok (.getfield 31, 3) := by decide +kernel
theorem dX0_mendHeights_12 : decode cX0_mendHeights 12 = .ok (.iload_n 1, 1) := by decide +kernel
theorem dX0_mendHeights_13 : decode cX0_mendHeights 13 = .ok (.aload_n 0, 1) := by decide +kernel
theorem dX0_mendHeights_14 : decode cX0_mendHeights 14 = .ok (.iload_n 1, 1) := by decide +kernel
theorem dX0_mendHeights_15 : decode cX0_mendHeights 15 = .ok (.invokevirtual 62, 3) := by decide +kernel
theorem dX0_mendHeights_18 : decode cX0_mendHeights 18 = .ok (.iastore, 1) := by decide +kernel
theorem dX0_mendHeights_19 : decode cX0_mendHeights 19 = .ok (.iinc 1 1, 3) := by decide +kernel
theorem dX0_mendHeights_22 : decode cX0_mendHeights 22 = .ok (.goto (-20), 3) := by decide +kernel
theorem dX0_mendHeights_25 : decode cX0_mendHeights 25 = .ok (.iconst 0, 1) := by decide +kernel
theorem dX0_mendHeights_26 : decode cX0_mendHeights 26 = .ok (.istore_n 1, 1) := by decide +kernel
theorem dX0_mendHeights_27 : decode cX0_mendHeights 27 = .ok (.iload_n 1, 1) := by decide +kernel
theorem dX0_mendHeights_28 : decode cX0_mendHeights 28 = .ok (.bipush 7, 2) := by decide +kernel
theorem dX0_mendHeights_30 : decode cX0_mendHeights 30 = .ok (.if_icmp .ge 18, 3) := by decide +kernel
theorem dX0_mendHeights_33 : decode cX0_mendHeights 33 = .ok (.aload_n 0, 1) := by decide +kernel
theorem dX0_mendHeights_34 : decode cX0_mendHeights 34 = .ok (.iload_n 1, 1) := by decide +kernel
theorem dX0_mendHeights_35 : decode cX0_mendHeights 35 = .ok (.iconst 1, 1) := by decide +kernel
theorem dX0_mendHeights_36 : decode cX0_mendHeights 36 = .ok (.iadd, 1) := by decide +kernel
theorem dX0_mendHeights_37 : decode cX0_mendHeights 37 = .ok (.iload_n 1, 1) := by decide +kernel
theorem dX0_mendHeights_38 : decode cX0_mendHeights 38 = .ok (.iload_n 1, 1) := by decide +kernel
theorem dX0_mendHeights_39 : decode cX0_mendHeights 39 = .ok (.invokevirtual 65, 3) := by decide +kernel
theorem dX0_mendHeights_42 : decode cX0_mendHeights 42 = .ok (.iinc 1 1, 3) := by decide +kernel
theorem dX0_mendHeights_45 : decode cX0_mendHeights 45 = .ok (.goto (-18), 3) := by decide +kernel
theorem dX0_mendHeights_48 : decode cX0_mendHeights 48 = .ok (.bipush 6, 2) := by decide +kernel
theorem dX0_mendHeights_50 : decode cX0_mendHeights 50 = .ok (.istore_n 1, 1) := by decide +kernel
theorem dX0_mendHeights_51 : decode cX0_mendHeights 51 = .ok (.iload_n 1, 1) := by decide +kernel
theorem dX0_mendHeights_52 : decode cX0_mendHeights 52 = .ok (.ifCond .lt 18, 3) := by decide +kernel
theorem dX0_mendHeights_55 : decode cX0_mendHeights 55 = .ok (.aload_n 0, 1) := by decide +kernel
theorem dX0_mendHeights_56 : decode cX0_mendHeights 56 = .ok (.iload_n 1, 1) := by decide +kernel
theorem dX0_mendHeights_57 : decode cX0_mendHeights 57 = .ok (.iload_n 1, 1) := by decide +kernel
theorem dX0_mendHeights_58 : decode cX0_mendHeights 58 = .ok (.iconst 1, 1) := by decide +kernel
theorem dX0_mendHeights_59 : decode cX0_mendHeights 59 = .ok (.iadd, 1) := by decide +kernel
theorem dX0_mendHeights_60 : decode cX0_mendHeights 60 = .ok (.iload_n 1, 1) := by decide +kernel
theorem dX0_mendHeights_61 : decode cX0_mendHeights 61 = .ok (.invokevirtual 65, 3) := by decide +kernel
theorem dX0_mendHeights_64 : decode cX0_mendHeights 64 = .ok (.iinc 1 (-1), 3) := by decide +kernel
theorem dX0_mendHeights_67 : decode cX0_mendHeights 67 = .ok (.goto (-16), 3) := by decide +kernel
theorem dX0_mendHeights_70 : decode cX0_mendHeights 70 = .ok (.return_, 1) := by decide +kernel
theorem dX0_comeDown_0 : decode cX0_comeDown 0 = .ok (.aload_n 0, 1) := by decide +kernel
theorem dX0_comeDown_1 : decode cX0_comeDown 1 = .ok (.getfield 21, 3) := by decide +kernel
theorem dX0_comeDown_4 : decode cX0_comeDown 4 = .ok (.iload_n 3, 1) := by decide +kernel
theorem dX0_comeDown_5 : decode cX0_comeDown 5 = .ok (.baload, 1) := by decide +kernel
theorem dX0_comeDown_6 : decode cX0_comeDown 6 = .ok (.ifCond .eq 31, 3) := by decide +kernel
theorem dX0_comeDown_9 : decode cX0_comeDown 9 = .ok (.aload_n 0, 1) := by decide +kernel
theorem dX0_comeDown_10 : decode cX0_comeDown 10 = .ok (.getfield 31, 3) := by decide +kernel
theorem dX0_comeDown_13 : decode cX0_comeDown 13 = .ok (.iload_n 1, 1) := by decide +kernel
theorem dX0_comeDown_14 : decode cX0_comeDown 14 = .ok (.aload_n 0, 1) := by decide +kernel
theorem dX0_comeDown_15 : decode cX0_comeDown 15 = .ok (.getfield 31, 3) := by decide +kernel
theorem dX0_comeDown_18 : decode cX0_comeDown 18 = .ok (.iload_n 1, 1) := by decide +kernel
theorem dX0_comeDown_19 : decode cX0_comeDown 19 = .ok (.iaload, 1) := by decide +kernel
theorem dX0_comeDown_20 : decode cX0_comeDown 20 = .ok (.aload_n 0, 1) := by decide +kernel
theorem dX0_comeDown_21 : decode cX0_comeDown 21 = .ok (.getfield 31, 3) := by decide +kernel
theorem dX0_comeDown_24 : decode cX0_comeDown 24 = .ok (.iload_n 2, 1) := by decide +kernel
theorem dX0_comeDown_25 : decode cX0_comeDown 25 = .ok (.iaload, 1) := by decide +kernel
theorem dX0_comeDown_26 : decode cX0_comeDown 26 = .ok (.aload_n 0, 1) := by decide +kernel
theorem dX0_comeDown_27 : decode cX0_comeDown 27 = .ok (.getfield 25, 3) := by decide +kernel
theorem dX0_comeDown_30 : decode cX0_comeDown 30 = .ok (.iload_n 3, 1) := by decide +kernel
theorem dX0_comeDown_31 : decode cX0_comeDown 31 = .ok (.iaload, 1) := by decide +kernel
theorem dX0_comeDown_32 : decode cX0_comeDown 32 = .ok (.iadd, 1) := by decide +kernel
theorem dX0_comeDown_33 : decode cX0_comeDown 33 = .ok (.invokestatic 53, 3) := by decide +kernel
theorem dX0_comeDown_36 : decode cX0_comeDown 36 = .ok (.iastore, 1) := by decide +kernel
theorem dX0_comeDown_37 : decode cX0_comeDown 37 = .ok (.return_, 1) := by decide +kernel
set_option maxRecDepth 20000 in
theorem ggX0_heightByString_X0_wanted : GoodIn wsX0_heightByString wsX0_wanted := goodIn_r _ [11, 3, 4, 5, 6, 12, 13, 14, 15, 16, 17, 10, 18, 19, 20, 21, 22, 23, 24, 25, 26, 27] (by decide +kernel) (by decide +kernel)
set_option maxRecDepth 20000 in
theorem gX0_heightByString_X0_wanted : GoodIn wsX0_heightByString (wsV RX0 62 RX0 yX0_wanted wsX0_wanted) := goodIn_app (goodIn_of _ (by decide +kernel)) ggX0_heightByString_X0_wanted
theorem dX0_heightByString_0 : decode cX0_heightByString 0 = .ok (.aload_n 0, 1) := by decide +kernel
theorem dX0_heightByString_1 : decode cX0_heightByString 1 = .ok (.iload_n 1, 1) := by decide +kernel
theorem dX0_heightByString_2 : decode cX0_heightByString 2 = .ok (.invokevirtual 62, 3) := by decide +kernel
theorem dX0_heightByString_5 : decode cX0_heightByString 5 = .ok (.istore_n 2, 1) := by decide +kernel
theorem dX0_heightByString_6 : decode cX0_heightByString 6 = .ok (.iconst 0, 1) := by decide +kernel
theorem dX0_heightByString_7 : decode cX0_heightByString 7 = .ok (.istore_n 3, 1) := by decide +kernel
theorem dX0_heightByString_8 : decode cX0_heightByString 8 = .ok (.iload_n 1, 1) := by decide +kernel
theorem dX0_heightByString_9 : decode cX0_heightByString 9 = .ok (.iconst 1, 1) := by decide +kernel
theorem dX0_heightByString_10 : decode cX0_heightByString 10 = .ok (.isub, 1) := by decide +kernel
theorem dX0_heightByString_11 : decode cX0_heightByString 11 = .ok (.istore 4, 2) := by decide +kernel
theorem dX0_heightByString_13 : decode cX0_heightByString 13 = .ok (.iload 4, 2) := by decide +kernel
theorem dX0_heightByString_15 : decode cX0_heightByString 15 = .ok (.ifCond .lt 42, 3) := by decide +kernel
theorem dX0_heightByString_18 : decode cX0_heightByString 18 = .ok (.aload_n 0, 1) := by decide +kernel
theorem dX0_heightByString_19 : decode cX0_heightByString 19 = .ok (.getfield 21, 3) := by decide +kernel
theorem dX0_heightByString_22 : decode cX0_heightByString 22 = .ok (.iload 4, 2) := by decide +kernel
theorem dX0_heightByString_24 : decode cX0_heightByString 24 = .ok (.baload, 1) := by decide +kernel
theorem dX0_heightByString_25 : decode cX0_heightByString 25 = .ok (.ifCond .eq 32, 3) := by decide +kernel
theorem dX0_heightByString_28 : decode cX0_heightByString 28 = .ok (.iload_n 3, 1) := by decide +kernel
theorem dX0_heightByString_29 : decode cX0_heightByString 29 = .ok (.aload_n 0, 1) := by decide +kernel
theorem dX0_heightByString_30 : decode cX0_heightByString 30 = .ok (.getfield 25, 3) := by decide +kernel
theorem dX0_heightByString_33 : decode cX0_heightByString 33 = .ok (.iload 4, 2) := by decide +kernel
theorem dX0_heightByString_35 : decode cX0_heightByString 35 = .ok (.iaload, 1) := by decide +kernel
theorem dX0_heightByString_36 : decode cX0_heightByString 36 = .ok (.iadd, 1) := by decide +kernel
theorem dX0_heightByString_37 : decode cX0_heightByString 37 = .ok (.istore_n 3, 1) := by decide +kernel
theorem dX0_heightByString_38 : decode cX0_heightByString 38 = .ok (.iload_n 2, 1) := by decide +kernel
theorem dX0_heightByString_39 : decode cX0_heightByString 39 = .ok (.aload_n 0, 1) := by decide +kernel
theorem dX0_heightByString_40 : decode cX0_heightByString 40 = .ok (.iload 4, 2) := by decide +kernel
theorem dX0_heightByString_42 : decode cX0_heightByString 42 = .ok (.invokevirtual 62, 3) := by decide +kernel
theorem dX0_heightByString_45 : decode cX0_heightByString 45 = .ok (.iload_n 3, 1) := by decide +kernel
theorem dX0_heightByString_46 : decode cX0_heightByString 46 = .ok (.iadd, 1) := by decide +kernel
theorem dX0_heightByString_47 : decode cX0_heightByString 47 = .ok (.invokestatic 53, 3) := by decide +kernel
theorem dX0_heightByString_50 : decode cX0_heightByString 50 = .ok (.istore_n 2, 1) := by decide +kernel
theorem dX0_heightByString_51 : decode cX0_heightByString 51 = .ok (.iinc 4 (-1), 3) := by decide +kernel
theorem dX0_heightByString_54 : decode cX0_heightByString 54 = .ok (.goto (-41), 3) := by decide +kernel
theorem dX0_heightByString_57 : decode cX0_heightByString 57 = .ok (.iconst 0, 1) := by decide +kernel
theorem dX0_heightByString_58 : decode cX0_heightByString 58 = .ok (.istore_n 3, 1) := by decide +kernel
theorem dX0_heightByString_59 : decode cX0_heightByString 59 = .ok (.iload_n 1, 1) := by decide +kernel
theorem dX0_heightByString_60 : decode cX0_heightByString 60 = .ok (.istore 4, 2) := by decide +kernel
theorem dX0_heightByString_62 : decode cX0_heightByString 62 = .ok (.iload 4, 2) := by decide +kernel
theorem dX0_heightByString_64 : decode cX0_heightByString 64 = .ok (.bipush 7, 2) := by decide +kernel
theorem dX0_heightByString_66 : decode cX0_heightByString 66 = .ok (.if_icmp .ge 44, 3) := by decide +kernel
theorem dX0_heightByString_69 : decode cX0_heightByString 69 = .ok (.aload_n 0, 1) := by decide +kernel
theorem dX0_heightByString_70 : decode cX0_heightByString 70 = .ok (.getfield 21, 3) := by decide +kernel
theorem dX0_heightByString_73 : decode cX0_heightByString 73 = .ok (.iload 4, 2) := by decide +kernel
theorem dX0_heightByString_75 : decode cX0_heightByString 75 = .ok (.baload, 1) := by decide +kernel
theorem dX0_heightByString_76 : decode cX0_heightByString 76 = .ok (.ifCond .eq 34, 3) := by decide +kernel
theorem dX0_heightByString_79 : decode cX0_heightByString 79 = .ok (.iload_n 3, 1) := by decide +kernel
theorem dX0_heightByString_80 : decode cX0_heightByString 80 = .ok (.aload_n 0, 1) := by decide +kernel
theorem dX0_heightByString_81 : decode cX0_heightByString 81 = .ok (.getfield 25, 3) := by decide +kernel
theorem dX0_heightByString_84 : decode cX0_heightByString 84 = .ok (.iload 4, 2) := by decide +kernel
theorem dX0_heightByString_86 : decode cX0_heightByString 86 = .ok (.iaload, 1) := by decide +kernel
theorem dX0_heightByString_87 : decode cX0_heightByString 87 = .ok (.iadd, 1) := by decide +kernel
theorem dX0_heightByString_88 : decode cX0_heightByString 88 = .ok (.istore_n 3, 1) := by decide +kernel
theorem dX0_heightByString_89 : decode cX0_heightByString 89 = .ok (.iload_n 2, 1) := by decide +kernel
theorem dX0_heightByString_90 : decode cX0_heightByString 90 = .ok (.aload_n 0, 1) := by decide +kernel
theorem dX0_heightByString_91 : decode cX0_heightByString 91 = .ok (.iload 4, 2) := by decide +kernel
theorem dX0_heightByString_93 : decode cX0_heightByString 93 = .ok (.iconst 1, 1) := by decide +kernel
theorem dX0_heightByString_94 : decode cX0_heightByString 94 = .ok (.iadd, 1) := by decide +kernel
theorem dX0_heightByString_95 : decode cX0_heightByString 95 = .ok (.invokevirtual 62, 3) := by decide +kernel
theorem dX0_heightByString_98 : decode cX0_heightByString 98 = .ok (.iload_n 3, 1) := by decide +kernel
theorem dX0_heightByString_99 : decode cX0_heightByString 99 = .ok (.iadd, 1) := by decide +kernel
theorem dX0_heightByString_100 : decode cX0_heightByString 100 = .ok (.invokestatic 53, 3) := by decide +kernel
theorem dX0_heightByString_103 : decode cX0_heightByString 103 = .ok (.istore_n 2, 1) := by decide +kernel
theorem dX0_heightByString_104 : decode cX0_heightByString 104 = .ok (.iinc 4 1, 3) := by decide +kernel
theorem dX0_heightByString_107 : decode cX0_heightByString 107 = .ok (.goto (-45), 3) := by decide +kernel
theorem dX0_heightByString_110 : decode cX0_heightByString 110 = .ok (.iload_n 2, 1) := by decide +kernel
theorem dX0_heightByString_111 : decode cX0_heightByString 111 = .ok (.ireturn, 1) := by decide +kernel
theorem dX0_stringStart_0 : decode cX0_stringStart 0 = .ok (.iload_n 1, 1) := by decide +kernel
theorem dX0_stringStart_1 : decode cX0_stringStart 1 = .ok (.istore_n 2, 1) := by decide +kernel
theorem dX0_stringStart_2 : decode cX0_stringStart 2 = .ok (.iload_n 2, 1) := by decide +kernel
theorem dX0_stringStart_3 : decode cX0_stringStart 3 = .ok (.ifCond .le 20, 3) := by decide +kernel
theorem dX0_stringStart_6 : decode cX0_stringStart 6 = .ok (.aload_n 0, 1) := by decide +kernel
theorem dX0_stringStart_7 : decode cX0_stringStart 7 = .ok (.getfield 21, 3) := by decide +kernel
theorem dX0_stringStart_10 : decode cX0_stringStart 10 = .ok (.iload_n 2, 1) := by decide +kernel
theorem dX0_stringStart_11 : decode cX0_stringStart 11 = .ok (.iconst 1, 1) := by decide +kernel
theorem dX0_stringStart_12 : decode cX0_stringStart 12 = .ok (.isub, 1) := by decide +kernel
theorem dX0_stringStart_13 : decode cX0_stringStart 13 = .ok (.baload, 1) := by decide +kernel
theorem dX0_stringStart_14 : decode cX0_stringStart 14 = .ok (.ifCond .eq 9, 3) := by decide +kernel
theorem dX0_stringStart_17 : decode cX0_stringStart 17 = .ok (.iinc 2 (-1), 3) := by decide +kernel
theorem dX0_stringStart_20 : decode cX0_stringStart 20 = .ok (.goto (-18), 3) := by decide +kernel
theorem dX0_stringStart_23 : decode cX0_stringStart 23 = .ok (.iload_n 2, 1) := by decide +kernel
theorem dX0_stringStart_24 : decode cX0_stringStart 24 = .ok (.ireturn, 1) := by decide +kernel
set_option maxRecDepth 20000 in
theorem ggX0_stringSize_X0_stringStart : GoodIn wsX0_stringSize wsX0_stringStart := goodIn_r _ [6, 1, 7, 8, 9, 10, 11, 12, 13] (by decide +kernel) (by decide +kernel)
set_option maxRecDepth 20000 in
theorem gX0_stringSize_X0_stringStart : GoodIn wsX0_stringSize (wsV RX0 69 RX0 yX0_stringStart wsX0_stringStart) := goodIn_app (goodIn_of _ (by decide +kernel)) ggX0_stringSize_X0_stringStart
theorem dX0_stringSize_0 : decode cX0_stringSize 0 = .ok (.iload_n 1, 1) := by decide +kernel
theorem dX0_stringSize_1 : decode cX0_stringSize 1 = .ok (.istore_n 2, 1) := by decide +kernel
theorem dX0_stringSize_2 : decode cX0_stringSize 2 = .ok (.iload_n 2, 1) := by decide +kernel
theorem dX0_stringSize_3 : decode cX0_stringSize 3 = .ok (.bipush 7, 2) := by decide +kernel
theorem dX0_stringSize_5 : decode cX0_stringSize 5 = .ok (.if_icmp .ge 18, 3) := by decide +kernel
theorem dX0_stringSize_8 : decode cX0_stringSize 8 = .ok (.aload_n 0, 1) := by decide +kernel
theorem dX0_stringSize_9 : decode cX0_stringSize 9 = .ok (.getfield 21, 3) := by decide +kernel
theorem dX0_stringSize_12 : decode cX0_stringSize 12 = .ok (.iload_n 2, 1) := by decide +kernel
theorem dX0_stringSize_13 : decode cX0_stringSize 13 = .ok (.baload, 1) := by decide +kernel
theorem dX0_stringSize_14 : decode cX0_stringSize 14 = .ok (.ifCond .eq 9, 3) := by decide +kernel
theorem dX0_stringSize_17 : decode cX0_stringSize 17 = .ok (.iinc 2 1, 3) := by decide +kernel
theorem dX0_stringSize_20 : decode cX0_stringSize 20 = .ok (.goto (-18), 3) := by decide +kernel
theorem dX0_stringSize_23 : decode cX0_stringSize 23 = .ok (.iload_n 2, 1) := by decide +kernel
theorem dX0_stringSize_24 : decode cX0_stringSize 24 = .ok (.aload_n 0, 1) := by decide +kernel
theorem dX0_stringSize_25 : decode cX0_stringSize 25 = .ok (.iload_n 1, 1) := by decide +kernel
theorem dX0_stringSize_26 : decode cX0_stringSize 26 = .ok (.invokevirtual 69, 3) := by decide +kernel
theorem dX0_stringSize_29 : decode cX0_stringSize 29 = .ok (.isub, 1) := by decide +kernel
theorem dX0_stringSize_30 : decode cX0_stringSize 30 = .ok (.iconst 1, 1) := by decide +kernel
theorem dX0_stringSize_31 : decode cX0_stringSize 31 = .ok (.iadd, 1) := by decide +kernel
theorem dX0_stringSize_32 : decode cX0_stringSize 32 = .ok (.ireturn, 1) := by decide +kernel
set_option maxRecDepth 20000 in
theorem ggX0_pull_X0_upperEnd : GoodIn wsX0_pull wsX0_upperEnd := goodIn_r _ [8, 3, 2, 9, 10, 11, 7, 12, 13, 14, 15, 16, 17, 18, 19, 20, 21, 22, 23, 24, 25, 26, 27, 28, 29, 30, 31, 32] (by decide +kernel) (by decide +kernel)
set_option maxRecDepth 20000 in
theorem gX0_pull_X0_upperEnd : GoodIn wsX0_pull (wsV RX0 72 RX0 yX0_upperEnd wsX0_upperEnd) := goodIn_app (goodIn_of _ (by decide +kernel)) ggX0_pull_X0_upperEnd
set_option maxRecDepth 20000 in
theorem ggX0_pull_X0_wanted : GoodIn wsX0_pull wsX0_wanted := goodIn_r _ [12, 13, 14, 15, 16, 17, 18, 19, 20, 21, 22, 7, 23, 24, 25, 26, 27, 28, 29, 30, 31, 32] (by decide +kernel) (by decide +kernel)
set_option maxRecDepth 20000 in
theorem gX0_pull_X0_wanted : GoodIn wsX0_pull (wsV RX0 62 RX0 yX0_wanted wsX0_wanted) := goodIn_app (goodIn_of _ (by decide +kernel)) ggX0_pull_X0_wanted
theorem dX0_pull_0 : decode cX0_pull 0 = .ok (.aload_n 0, 1) := by decide +kernel
theorem dX0_pull_1 : decode cX0_pull 1 = .ok (.getfield 21, 3) := by decide +kernel
theorem dX0_pull_4 : decode cX0_pull 4 = .ok (.iload_n 1, 1) := by decide +kernel
theorem dX0_pull_5 : decode cX0_pull 5 = .ok (.baload, 1) := by decide +kernel
theorem dX0_pull_6 : decode cX0_pull 6 = .ok (.ifCond .ne 5, 3) := by decide +kernel
theorem dX0_pull_9 : decode cX0_pull 9 = .ok (.iconst 0, 1) := by decide +kernel
theorem dX0_pull_10 : decode cX0_pull 10 = .ok (.ireturn, 1) := by decide +kernel
theorem dX0_pull_11 : decode cX0_pull 11 = .ok (.aload_n 0, 1) := by decide +kernel
theorem dX0_pull_12 : decode cX0_pull 12 = .ok (.iload_n 1, 1) := by decide +kernel
theorem dX0_pull_13 : decode cX0_pull 13 = .ok (.invokevirtual 72, 3) := by decide +kernel
theorem dX0_pull_16 : decode cX0_pull 16 = .ok (.istore_n 2, 1) := by decide +kernel
theorem dX0_pull_17 : decode cX0_pull 17 = .ok (.iload_n 2, 1) := by decide +kernel
theorem dX0_pull_18 : decode cX0_pull 18 = .ok (.iload_n 1, 1) := by decide +kernel
theorem dX0_pull_19 : decode cX0_pull 19 = .ok (.if_icmp .ne 9, 3) := by decide +kernel
theorem dX0_pull_22 : decode cX0_pull 22 = .ok (.iload_n 1, 1) := by decide +kernel
theorem dX0_pull_23 : decode cX0_pull 23 = .ok (.iconst 1, 1) := by decide +kernel
theorem dX0_pull_24 : decode cX0_pull 24 = .ok (.iadd, 1) := by decide +kernel
theorem dX0_pull_25 : decode cX0_pull 25 = .ok (.goto 4, 3) := by decide +kernel
theorem dX0_pull_28 : decode cX0_pull 28 = .ok (.iload_n 1, 1) := by decide +kernel
theorem dX0_pull_29 : decode cX0_pull 29 = .ok (.istore_n 3, 1) := by decide +kernel
theorem dX0_pull_30 : decode cX0_pull 30 = .ok (.aload_n 0, 1) := by decide +kernel
theorem dX0_pull_31 : decode cX0_pull 31 = .ok (.getfield 31, 3) := by decide +kernel
theorem dX0_pull_34 : decode cX0_pull 34 = .ok (.iload_n 2, 1) := by decide +kernel
theorem dX0_pull_35 : decode cX0_pull 35 = .ok (.iaload, 1) := by decide +kernel
theorem dX0_pull_36 : decode cX0_pull 36 = .ok (.aload_n 0, 1) := by decide +kernel
theorem dX0_pull_37 : decode cX0_pull 37 = .ok (.getfield 31, 3) := by decide +kernel
theorem dX0_pull_40 : decode cX0_pull 40 = .ok (.iload_n 3, 1) := by decide +kernel
theorem dX0_pull_41 : decode cX0_pull 41 = .ok (.iaload, 1) := by decide +kernel
theorem dX0_pull_42 : decode cX0_pull 42 = .ok (.isub, 1) := by decide +kernel
theorem dX0_pull_43 : decode cX0_pull 43 = .ok (.aload_n 0, 1) := by decide +kernel
theorem dX0_pull_44 : decode cX0_pull 44 = .ok (.getfield 25, 3) := by decide +kernel
theorem dX0_pull_47 : decode cX0_pull 47 = .ok (.iload_n 1, 1) := by decide +kernel
theorem dX0_pull_48 : decode cX0_pull 48 = .ok (.iaload, 1) := by decide +kernel
theorem dX0_pull_49 : decode cX0_pull 49 = .ok (.if_icmp .eq 5, 3) := by decide +kernel
theorem dX0_pull_52 : decode cX0_pull 52 = .ok (.iconst 0, 1) := by decide +kernel
theorem dX0_pull_53 : decode cX0_pull 53 = .ok (.ireturn, 1) := by decide +kernel
theorem dX0_pull_54 : decode cX0_pull 54 = .ok (.aload_n 0, 1) := by decide +kernel
theorem dX0_pull_55 : decode cX0_pull 55 = .ok (.iload_n 2, 1) := by decide +kernel
theorem dX0_pull_56 : decode cX0_pull 56 = .ok (.invokevirtual 62, 3) := by decide +kernel
theorem dX0_pull_59 : decode cX0_pull 59 = .ok (.aload_n 0, 1) := by decide +kernel
theorem dX0_pull_60 : decode cX0_pull 60 = .ok (.getfield 31, 3) := by decide +kernel
theorem dX0_pull_63 : decode cX0_pull 63 = .ok (.iload_n 2, 1) := by decide +kernel
theorem dX0_pull_64 : decode cX0_pull 64 = .ok (.iaload, 1) := by decide +kernel
theorem dX0_pull_65 : decode cX0_pull 65 = .ok (.isub, 1) := by decide +kernel
theorem dX0_pull_66 : decode cX0_pull 66 = .ok (.ireturn, 1) := by decide +kernel
set_option maxRecDepth 20000 in
theorem ggX0_upperEnd_X0_wanted : GoodIn wsX0_upperEnd wsX0_wanted := goodIn_r _ [7, 8, 9, 10, 11, 12, 13, 14, 15, 16, 17, 6, 18, 19, 20, 21, 22, 23, 24, 25, 26, 27] (by decide +kernel) (by decide +kernel)
set_option maxRecDepth 20000 in
theorem gX0_upperEnd_X0_wanted : GoodIn wsX0_upperEnd (wsV RX0 62 RX0 yX0_wanted wsX0_wanted) := goodIn_app (goodIn_of _ (by decide +kernel)) ggX0_upperEnd_X0_wanted
theorem dX0_upperEnd_0 : decode cX0_upperEnd 0 = .ok (.aload_n 0, 1) := by decide +kernel
theorem dX0_upperEnd_1 : decode cX0_upperEnd 1 = .ok (.getfield 25, 3) := by decide +kernel
theorem dX0_upperEnd_4 : decode cX0_upperEnd 4 = .ok (.iload_n 1, 1) := by decide +kernel
theorem dX0_upperEnd_5 : decode cX0_upperEnd 5 = .ok (.iaload, 1) := by decide +kernel
theorem dX0_upperEnd_6 : decode cX0_upperEnd 6 = .ok (.ifCond .ne 26, 3) := by decide +kernel
theorem dX0_upperEnd_9 : decode cX0_upperEnd 9 = .ok (.aload_n 0, 1) := by decide +kernel
theorem dX0_upperEnd_10 : decode cX0_upperEnd 10 = .ok (.iload_n 1, 1) := by decide +kernel
theorem dX0_upperEnd_11 : decode cX0_upperEnd 11 = .ok (.iconst 1, 1) := by decide +kernel
theorem dX0_upperEnd_12 : decode cX0_upperEnd 12 = .ok (.iadd, 1) := by decide +kernel
theorem dX0_upperEnd_13 : decode cX0_upperEnd 13 = .ok (.invokevirtual 62, 3) := by decide +kernel
theorem dX0_upperEnd_16 : decode cX0_upperEnd 16 = .ok (.aload_n 0, 1) := by decide +kernel
theorem dX0_upperEnd_17 : decode cX0_upperEnd 17 = .ok (.iload_n 1, 1) := by decide +kernel
theorem dX0_upperEnd_18 : decode cX0_upperEnd 18 = .ok (.invokevirtual 62, 3) := by decide +kernel
theorem dX0_upperEnd_21 : decode cX0_upperEnd 21 = .ok (.if_icmp .le 9, 3) := by decide +kernel
theorem dX0_upperEnd_24 : decode cX0_upperEnd 24 = .ok (.iload_n 1, 1) := by decide +kernel
theorem dX0_upperEnd_25 : decode cX0_upperEnd 25 = .ok (.iconst 1, 1) := by decide +kernel
theorem dX0_upperEnd_26 : decode cX0_upperEnd 26 = .ok (.iadd, 1) := by decide +kernel
theorem dX0_upperEnd_27 : decode cX0_upperEnd 27 = .ok (.goto 4, 3) := by decide +kernel
theorem dX0_upperEnd_30 : decode cX0_upperEnd 30 = .ok (.iload_n 1, 1) := by decide +kernel
theorem dX0_upperEnd_31 : decode cX0_upperEnd 31 = .ok (.ireturn, 1) := by decide +kernel
theorem dX0_upperEnd_32 : decode cX0_upperEnd 32 = .ok (.aload_n 0, 1) := by decide +kernel
theorem dX0_upperEnd_33 : decode cX0_upperEnd 33 = .ok (.getfield 31, 3) := by decide +kernel
theorem dX0_upperEnd_36 : decode cX0_upperEnd 36 = .ok (.iload_n 1, 1) := by decide +kernel
theorem dX0_upperEnd_37 : decode cX0_upperEnd 37 = .ok (.iconst 1, 1) := by decide +kernel
theorem dX0_upperEnd_38 : decode cX0_upperEnd 38 = .ok (.iadd, 1) := by decide +kernel
theorem dX0_upperEnd_39 : decode cX0_upperEnd 39 = .ok (.iaload, 1) := by decide +kernel
theorem dX0_upperEnd_40 : decode cX0_upperEnd 40 = .ok (.aload_n 0, 1) := by decide +kernel
theorem dX0_upperEnd_41 : decode cX0_upperEnd 41 = .ok (.getfield 31, 3) := by decide +kernel
theorem dX0_upperEnd_44 : decode cX0_upperEnd 44 = .ok (.iload_n 1, 1) := by decide +kernel
theorem dX0_upperEnd_45 : decode cX0_upperEnd 45 = .ok (.iaload, 1) := by decide +kernel
theorem dX0_upperEnd_46 : decode cX0_upperEnd 46 = .ok (.if_icmp .le 9, 3) := by decide +kernel
theorem dX0_upperEnd_49 : decode cX0_upperEnd 49 = .ok (.iload_n 1, 1) := by decide +kernel
theorem dX0_upperEnd_50 : decode cX0_upperEnd 50 = .ok (.iconst 1, 1) := by decide +kernel
theorem dX0_upperEnd_51 : decode cX0_upperEnd 51 = .ok (.iadd, 1) := by decide +kernel
theorem dX0_upperEnd_52 : decode cX0_upperEnd 52 = .ok (.goto 4, 3) := by decide +kernel
theorem dX0_upperEnd_55 : decode cX0_upperEnd 55 = .ok (.iload_n 1, 1) := by decide +kernel
theorem dX0_upperEnd_56 : decode cX0_upperEnd 56 = .ok (.ireturn, 1) := by decide +kernel
set_option maxRecDepth 20000 in
theorem ggX0_wouldSnap_X0_pull : GoodIn wsX0_wouldSnap wsX0_pull := goodIn_r _ [6, 7, 8, 9, 10, 11, 12, 5, 13, 14, 15, 16, 17, 18, 19, 20, 21, 22, 23, 24, 25, 26, 27, 28, 29, 30, 31, 32, 33, 34, 35, 36, 37] (by decide +kernel) (by decide +kernel)
set_option maxRecDepth 20000 in
theorem gX0_wouldSnap_X0_pull : GoodIn wsX0_wouldSnap (wsV RX0 75 RX0 yX0_pull wsX0_pull) := goodIn_app (goodIn_of _ (by decide +kernel)) ggX0_wouldSnap_X0_pull
theorem dX0_wouldSnap_0 : decode cX0_wouldSnap 0 = .ok (.aload_n 0, 1) := by decide +kernel
theorem dX0_wouldSnap_1 : decode cX0_wouldSnap 1 = .ok (.iload_n 1, 1) := by decide +kernel
theorem dX0_wouldSnap_2 : decode cX0_wouldSnap 2 = .ok (.invokevirtual 75, 3) := by decide +kernel
theorem dX0_wouldSnap_5 : decode cX0_wouldSnap 5 = .ok (.aload_n 0, 1) := by decide +kernel
theorem dX0_wouldSnap_6 : decode cX0_wouldSnap 6 = .ok (.getfield 28, 3) := by decide +kernel
theorem dX0_wouldSnap_9 : decode cX0_wouldSnap 9 = .ok (.iload_n 1, 1) := by decide +kernel
theorem dX0_wouldSnap_10 : decode cX0_wouldSnap 10 = .ok (.iaload, 1) := by decide +kernel
theorem dX0_wouldSnap_11 : decode cX0_wouldSnap 11 = .ok (.if_icmp .le 7, 3) := by decide +kernel
theorem dX0_wouldSnap_14 : decode cX0_wouldSnap 14 = .ok (.iconst 1, 1) := by decide +kernel
theorem dX0_wouldSnap_15 : decode cX0_wouldSnap 15 = .ok (.goto 4, 3) := by decide +kernel
theorem dX0_wouldSnap_18 : decode cX0_wouldSnap 18 = .ok (.iconst 0, 1) := by decide +kernel
theorem dX0_wouldSnap_19 : decode cX0_wouldSnap 19 = .ok (.ireturn, 1) := by decide +kernel
set_option maxRecDepth 20000 in
theorem ggX0_ribbonsThatWouldSnap_X0_wouldSnap : GoodIn wsX0_ribbonsThatWouldSnap wsX0_wouldSnap := goodIn_r _ [5, 6, 7, 8, 9, 4, 10, 11, 12, 13, 14, 15, 16, 17, 18, 19, 20, 21, 22, 23, 24, 25, 26, 27, 28, 29, 30, 31, 32, 33, 34, 35, 36, 37, 38, 39, 40, 41] (by decide +kernel) (by decide +kernel)
set_option maxRecDepth 20000 in
theorem gX0_ribbonsThatWouldSnap_X0_wouldSnap : GoodIn wsX0_ribbonsThatWouldSnap (wsV RX0 78 RX0 yX0_wouldSnap wsX0_wouldSnap) := goodIn_app (goodIn_of _ (by decide +kernel)) ggX0_ribbonsThatWouldSnap_X0_wouldSnap
theorem dX0_ribbonsThatWouldSnap_0 : decode cX0_ribbonsThatWouldSnap 0 = .ok (.iconst 0, 1) := by decide +kernel
theorem dX0_ribbonsThatWouldSnap_1 : decode cX0_ribbonsThatWouldSnap 1 = .ok (.istore_n 1, 1) := by decide +kernel
theorem dX0_ribbonsThatWouldSnap_2 : decode cX0_ribbonsThatWouldSnap 2 = .ok (.iconst 0, 1) := by decide +kernel
theorem dX0_ribbonsThatWouldSnap_3 : decode cX0_ribbonsThatWouldSnap 3 = .ok (.istore_n 2, 1) := by decide +kernel
theorem dX0_ribbonsThatWouldSnap_4 : decode cX0_ribbonsThatWouldSnap 4 = .ok (.iload_n 2, 1) := by decide +kernel
theorem dX0_ribbonsThatWouldSnap_5 : decode cX0_ribbonsThatWouldSnap 5 = .ok (.bipush 7, 2) := by decide +kernel
theorem dX0_ribbonsThatWouldSnap_7 : decode cX0_ribbonsThatWouldSnap 7 = .ok (.if_icmp .ge 25, 3) := by decide +kernel
theorem dX0_ribbonsThatWouldSnap_10 : decode cX0_ribbonsThatWouldSnap 10 = .ok (.iload_n 1, 1) := by decide +kernel
theorem dX0_ribbonsThatWouldSnap_11 : decode cX0_ribbonsThatWouldSnap 11 = .ok (.aload_n 0, 1) := by decide +kernel
theorem dX0_ribbonsThatWouldSnap_12 : decode cX0_ribbonsThatWouldSnap 12 = .ok (.iload_n 2, 1) := by decide +kernel
theorem dX0_ribbonsThatWouldSnap_13 : decode cX0_ribbonsThatWouldSnap 13 = .ok (.invokevirtual 78, 3) := by decide +kernel
theorem dX0_ribbonsThatWouldSnap_16 : decode cX0_ribbonsThatWouldSnap 16 = .ok (.ifCond .eq 7, 3) := by decide +kernel
theorem dX0_ribbonsThatWouldSnap_19 : decode cX0_ribbonsThatWouldSnap 19 = .ok (.iconst 1, 1) := by decide +kernel
theorem dX0_ribbonsThatWouldSnap_20 : decode cX0_ribbonsThatWouldSnap 20 = .ok (.goto 4, 3) := by decide +kernel
theorem dX0_ribbonsThatWouldSnap_23 : decode cX0_ribbonsThatWouldSnap 23 = .ok (.iconst 0, 1) := by decide +kernel
theorem dX0_ribbonsThatWouldSnap_24 : decode cX0_ribbonsThatWouldSnap 24 = .ok (.iadd, 1) := by decide +kernel
theorem dX0_ribbonsThatWouldSnap_25 : decode cX0_ribbonsThatWouldSnap 25 = .ok (.istore_n 1, 1) := by decide +kernel
theorem dX0_ribbonsThatWouldSnap_26 : decode cX0_ribbonsThatWouldSnap 26 = .ok (.iinc 2 1, 3) := by decide +kernel
theorem dX0_ribbonsThatWouldSnap_29 : decode cX0_ribbonsThatWouldSnap 29 = .ok (.goto (-25), 3) := by decide +kernel
theorem dX0_ribbonsThatWouldSnap_32 : decode cX0_ribbonsThatWouldSnap 32 = .ok (.iload_n 1, 1) := by decide +kernel
theorem dX0_ribbonsThatWouldSnap_33 : decode cX0_ribbonsThatWouldSnap 33 = .ok (.ireturn, 1) := by decide +kernel
set_option maxRecDepth 20000 in
theorem ggX0_leakHour_X0_mendHeights : GoodIn wsX0_leakHour wsX0_mendHeights := goodIn_r _ [11, 12, 13, 14, 15, 10, 16, 3, 4, 5, 6, 17, 18, 19, 20, 21, 22, 23, 1, 24, 25, 26, 27, 28, 29, 30, 31, 32, 33, 34, 35, 36, 37] (by decide +kernel) (by decide +kernel)
set_option maxRecDepth 20000 in
theorem gX0_leakHour_X0_mendHeights : GoodIn wsX0_leakHour (wsV RX0 40 RX0 yX0_mendHeights wsX0_mendHeights) := goodIn_app (goodIn_of _ (by decide +kernel)) ggX0_leakHour_X0_mendHeights
theorem dX0_leakHour_0 : decode cX0_leakHour 0 = .ok (.iconst 0, 1) := by decide +kernel
theorem dX0_leakHour_1 : decode cX0_leakHour 1 = .ok (.istore_n 1, 1) := by decide +kernel
theorem dX0_leakHour_2 : decode cX0_leakHour 2 = .ok (.iconst 0, 1) := by decide +kernel
theorem dX0_leakHour_3 : decode cX0_leakHour 3 = .ok (.istore_n 2, 1) := by decide +kernel
theorem dX0_leakHour_4 : decode cX0_leakHour 4 = .ok (.iload_n 2, 1) := by decide +kernel
theorem dX0_leakHour_5 : decode cX0_leakHour 5 = .ok (.bipush 8, 2) := by decide +kernel
theorem dX0_leakHour_7 : decode cX0_leakHour 7 = .ok (.if_icmp .ge 39, 3) := by decide +kernel
theorem dX0_leakHour_10 : decode cX0_leakHour 10 = .ok (.aload_n 0, 1) := by decide +kernel
theorem dX0_leakHour_11 : decode cX0_leakHour 11 = .ok (.getfield 9, 3) := by decide +kernel
theorem dX0_leakHour_14 : decode cX0_leakHour 14 = .ok (.iload_n 2, 1) := by decide +kernel
theorem dX0_leakHour_15 : decode cX0_leakHour 15 = .ok (.iaload, 1) := by decide +kernel
theorem dX0_leakHour_16 : decode cX0_leakHour 16 = .ok (.aload_n 0, 1) := by decide +kernel
theorem dX0_leakHour_17 : decode cX0_leakHour 17 = .ok (.getfield 18, 3) := by decide +kernel
theorem dX0_leakHour_20 : decode cX0_leakHour 20 = .ok (.iload_n 2, 1) := by decide +kernel
theorem dX0_leakHour_21 : decode cX0_leakHour 21 = .ok (.iaload, 1) := by decide +kernel
theorem dX0_leakHour_22 : decode cX0_leakHour 22 = .ok (.invokestatic 53, 3) := by decide +kernel
theorem dX0_leakHour_25 : decode cX0_leakHour 25 = .ok (.istore_n 3, 1) := by decide +kernel
theorem dX0_leakHour_26 : decode cX0_leakHour 26 = .ok (.aload_n 0, 1) := by decide +kernel
theorem dX0_leakHour_27 : decode cX0_leakHour 27 = .ok (.getfield 9, 3) := by decide +kernel
theorem dX0_leakHour_30 : decode cX0_leakHour 30 = .ok (.iload_n 2, 1) := by decide +kernel
theorem dX0_leakHour_31 : decode cX0_leakHour 31 = .ok (.dup2, 1) := by decide +kernel
theorem dX0_leakHour_32 : decode cX0_leakHour 32 = .ok (.iaload, 1) := by decide +kernel
theorem dX0_leakHour_33 : decode cX0_leakHour 33 = .ok (.iload_n 3, 1) := by decide +kernel
theorem dX0_leakHour_34 : decode cX0_leakHour 34 = .ok (.isub, 1) := by decide +kernel
theorem dX0_leakHour_35 : decode cX0_leakHour 35 = .ok (.iastore, 1) := by decide +kernel
theorem dX0_leakHour_36 : decode cX0_leakHour 36 = .ok (.iload_n 1, 1) := by decide +kernel
theorem dX0_leakHour_37 : decode cX0_leakHour 37 = .ok (.iload_n 3, 1) := by decide +kernel
theorem dX0_leakHour_38 : decode cX0_leakHour 38 = .ok (.iadd, 1) := by decide +kernel
theorem dX0_leakHour_39 : decode cX0_leakHour 39 = .ok (.istore_n 1, 1) := by decide +kernel
theorem dX0_leakHour_40 : decode cX0_leakHour 40 = .ok (.iinc 2 1, 3) := by decide +kernel
theorem dX0_leakHour_43 : decode cX0_leakHour 43 = .ok (.goto (-39), 3) := by decide +kernel
theorem dX0_leakHour_46 : decode cX0_leakHour 46 = .ok (.aload_n 0, 1) := by decide +kernel
theorem dX0_leakHour_47 : decode cX0_leakHour 47 = .ok (.invokevirtual 40, 3) := by decide +kernel
theorem dX0_leakHour_50 : decode cX0_leakHour 50 = .ok (.iload_n 1, 1) := by decide +kernel
theorem dX0_leakHour_51 : decode cX0_leakHour 51 = .ok (.ireturn, 1) := by decide +kernel
set_option maxRecDepth 20000 in
theorem ggX0_snapHour_X0_pull : GoodIn wsX0_snapHour wsX0_pull := goodIn_r _ [7, 2, 8, 9, 10, 11, 12, 6, 13, 14, 15, 16, 17, 18, 19, 20, 21, 22, 23, 24, 25, 26, 27, 28, 29, 30, 39, 40, 41, 42, 43, 44, 45] (by decide +kernel) (by decide +kernel)
set_option maxRecDepth 20000 in
theorem gX0_snapHour_X0_pull : GoodIn wsX0_snapHour (wsV RX0 75 RX0 yX0_pull wsX0_pull) := goodIn_app (goodIn_of _ (by decide +kernel)) ggX0_snapHour_X0_pull
set_option maxRecDepth 20000 in
theorem ggX0_snapHour_X0_mendHeights : GoodIn wsX0_snapHour wsX0_mendHeights := goodIn_r _ [34, 8, 14, 15, 16, 6, 17, 18, 19, 20, 21, 22, 23, 24, 25, 26, 27, 28, 29, 30, 35, 36, 37, 38, 2, 9, 39, 40, 41, 42, 43, 44, 45] (by decide +kernel) (by decide +kernel)
set_option maxRecDepth 20000 in
theorem gX0_snapHour_X0_mendHeights : GoodIn wsX0_snapHour (wsV RX0 40 RX0 yX0_mendHeights wsX0_mendHeights) := goodIn_app (goodIn_of _ (by decide +kernel)) ggX0_snapHour_X0_mendHeights
theorem dX0_snapHour_0 : decode cX0_snapHour 0 = .ok (.sipush (-1000), 3) := by decide +kernel
theorem dX0_snapHour_3 : decode cX0_snapHour 3 = .ok (.istore_n 1, 1) := by decide +kernel
theorem dX0_snapHour_4 : decode cX0_snapHour 4 = .ok (.iconst 0, 1) := by decide +kernel
theorem dX0_snapHour_5 : decode cX0_snapHour 5 = .ok (.istore_n 2, 1) := by decide +kernel
theorem dX0_snapHour_6 : decode cX0_snapHour 6 = .ok (.iconst 0, 1) := by decide +kernel
theorem dX0_snapHour_7 : decode cX0_snapHour 7 = .ok (.istore_n 3, 1) := by decide +kernel
theorem dX0_snapHour_8 : decode cX0_snapHour 8 = .ok (.iload_n 3, 1) := by decide +kernel
theorem dX0_snapHour_9 : decode cX0_snapHour 9 = .ok (.bipush 7, 2) := by decide +kernel
theorem dX0_snapHour_11 : decode cX0_snapHour 11 = .ok (.if_icmp .ge 38, 3) := by decide +kernel
theorem dX0_snapHour_14 : decode cX0_snapHour 14 = .ok (.aload_n 0, 1) := by decide +kernel
theorem dX0_snapHour_15 : decode cX0_snapHour 15 = .ok (.iload_n 3, 1) := by decide +kernel
theorem dX0_snapHour_16 : decode cX0_snapHour 16 = .ok (.invokevirtual 75, 3) := by decide +kernel
theorem dX0_snapHour_19 : decode cX0_snapHour 19 = .ok (.istore 4, 2) := by decide +kernel
theorem dX0_snapHour_21 : decode cX0_snapHour 21 = .ok (.iload 4, 2) := by decide +kernel
theorem dX0_snapHour_23 : decode cX0_snapHour 23 = .ok (.aload_n 0, 1) := by decide +kernel
theorem dX0_snapHour_24 : decode cX0_snapHour 24 = .ok (.getfield 28, 3) := by decide +kernel
theorem dX0_snapHour_27 : decode cX0_snapHour 27 = .ok (.iload_n 3, 1) := by decide +kernel
theorem dX0_snapHour_28 : decode cX0_snapHour 28 = .ok (.iaload, 1) := by decide +kernel
theorem dX0_snapHour_29 : decode cX0_snapHour 29 = .ok (.if_icmp .le 14, 3) := by decide +kernel
theorem dX0_snapHour_32 : decode cX0_snapHour 32 = .ok (.iload 4, 2) := by decide +kernel
theorem dX0_snapHour_34 : decode cX0_snapHour 34 = .ok (.iload_n 2, 1) := by decide +kernel
theorem dX0_snapHour_35 : decode cX0_snapHour 35 = .ok (.if_icmp .le 8, 3) := by decide +kernel
theorem dX0_snapHour_38 : decode cX0_snapHour 38 = .ok (.iload_n 3, 1) := by decide +kernel
theorem dX0_snapHour_39 : decode cX0_snapHour 39 = .ok (.istore_n 1, 1) := by decide +kernel
theorem dX0_snapHour_40 : decode cX0_snapHour 40 = .ok (.iload 4, 2) := by decide +kernel
theorem dX0_snapHour_42 : decode cX0_snapHour 42 = .ok (.istore_n 2, 1) := by decide +kernel
theorem dX0_snapHour_43 : decode cX0_snapHour 43 = .ok (.iinc 3 1, 3) := by decide +kernel
theorem dX0_snapHour_46 : decode cX0_snapHour 46 = .ok (.goto (-38), 3) := by decide +kernel
theorem dX0_snapHour_49 : decode cX0_snapHour 49 = .ok (.iload_n 1, 1) := by decide +kernel
theorem dX0_snapHour_50 : decode cX0_snapHour 50 = .ok (.sipush (-1000), 3) := by decide +kernel
theorem dX0_snapHour_53 : decode cX0_snapHour 53 = .ok (.if_icmp .ne 5, 3) := by decide +kernel
theorem dX0_snapHour_56 : decode cX0_snapHour 56 = .ok (.iconst 0, 1) := by decide +kernel
theorem dX0_snapHour_57 : decode cX0_snapHour 57 = .ok (.ireturn, 1) := by decide +kernel
theorem dX0_snapHour_58 : decode cX0_snapHour 58 = .ok (.aload_n 0, 1) := by decide +kernel
theorem dX0_snapHour_59 : decode cX0_snapHour 59 = .ok (.getfield 21, 3) := by decide +kernel
theorem dX0_snapHour_62 : decode cX0_snapHour 62 = .ok (.iload_n 1, 1) := by decide +kernel
theorem dX0_snapHour_63 : decode cX0_snapHour 63 = .ok (.iconst 0, 1) := by decide +kernel
theorem dX0_snapHour_64 : decode cX0_snapHour 64 = .ok (.bastore, 1) := by decide +kernel
theorem dX0_snapHour_65 : decode cX0_snapHour 65 = .ok (.aload_n 0, 1) := by decide +kernel
theorem dX0_snapHour_66 : decode cX0_snapHour 66 = .ok (.invokevirtual 40, 3) := by decide +kernel
theorem dX0_snapHour_69 : decode cX0_snapHour 69 = .ok (.iconst 1, 1) := by decide +kernel
theorem dX0_snapHour_70 : decode cX0_snapHour 70 = .ok (.ireturn, 1) := by decide +kernel
set_option maxRecDepth 20000 in
theorem ggX0_whyNot_X0_whyNotTie : GoodIn wsX0_whyNot wsX0_whyNotTie := goodIn_r _ [9, 4, 2, 10, 11, 12, 13, 14, 15, 16, 17, 18, 19, 20] (by decide +kernel) (by decide +kernel)
set_option maxRecDepth 20000 in
theorem gX0_whyNot_X0_whyNotTie : GoodIn wsX0_whyNot (wsV RX0 82 RX0 yX0_whyNotTie wsX0_whyNotTie) := goodIn_app (goodIn_of _ (by decide +kernel)) ggX0_whyNot_X0_whyNotTie
theorem dX0_whyNot_0 : decode cX0_whyNot 0 = .ok (.iload_n 1, 1) := by decide +kernel
theorem dX0_whyNot_1 : decode cX0_whyNot 1 = .ok (.tableswitch 133 0 4 #[35, 66, 82, 97, 126], 35) := by decide +kernel
theorem dX0_whyNot_36 : decode cX0_whyNot 36 = .ok (.aload_n 0, 1) := by decide +kernel
theorem dX0_whyNot_37 : decode cX0_whyNot 37 = .ok (.getfield 9, 3) := by decide +kernel
theorem dX0_whyNot_40 : decode cX0_whyNot 40 = .ok (.iload_n 2, 1) := by decide +kernel
theorem dX0_whyNot_41 : decode cX0_whyNot 41 = .ok (.iaload, 1) := by decide +kernel
theorem dX0_whyNot_42 : decode cX0_whyNot 42 = .ok (.iload_n 3, 1) := by decide +kernel
theorem dX0_whyNot_43 : decode cX0_whyNot 43 = .ok (.iadd, 1) := by decide +kernel
theorem dX0_whyNot_44 : decode cX0_whyNot 44 = .ok (.sipush 200, 3) := by decide +kernel
theorem dX0_whyNot_47 : decode cX0_whyNot 47 = .ok (.if_icmp .le 5, 3) := by decide +kernel
theorem dX0_whyNot_50 : decode cX0_whyNot 50 = .ok (.iconst 1, 1) := by decide +kernel
theorem dX0_whyNot_51 : decode cX0_whyNot 51 = .ok (.ireturn, 1) := by decide +kernel
theorem dX0_whyNot_52 : decode cX0_whyNot 52 = .ok (.aload_n 0, 1) := by decide +kernel
theorem dX0_whyNot_53 : decode cX0_whyNot 53 = .ok (.getfield 31, 3) := by decide +kernel
theorem dX0_whyNot_56 : decode cX0_whyNot 56 = .ok (.iload_n 2, 1) := by decide +kernel
theorem dX0_whyNot_57 : decode cX0_whyNot 57 = .ok (.iaload, 1) := by decide +kernel
theorem dX0_whyNot_58 : decode cX0_whyNot 58 = .ok (.ifCond .le 7, 3) := by decide +kernel
theorem dX0_whyNot_61 : decode cX0_whyNot 61 = .ok (.iconst 2, 1) := by decide +kernel
theorem dX0_whyNot_62 : decode cX0_whyNot 62 = .ok (.goto 4, 3) := by decide +kernel
theorem dX0_whyNot_65 : decode cX0_whyNot 65 = .ok (.iconst 0, 1) := by decide +kernel
theorem dX0_whyNot_66 : decode cX0_whyNot 66 = .ok (.ireturn, 1) := by decide +kernel
theorem dX0_whyNot_67 : decode cX0_whyNot 67 = .ok (.aload_n 0, 1) := by decide +kernel
theorem dX0_whyNot_68 : decode cX0_whyNot 68 = .ok (.getfield 9, 3) := by decide +kernel
theorem dX0_whyNot_71 : decode cX0_whyNot 71 = .ok (.iload_n 2, 1) := by decide +kernel
theorem dX0_whyNot_72 : decode cX0_whyNot 72 = .ok (.iaload, 1) := by decide +kernel
theorem dX0_whyNot_73 : decode cX0_whyNot 73 = .ok (.iload_n 3, 1) := by decide +kernel
theorem dX0_whyNot_74 : decode cX0_whyNot 74 = .ok (.if_icmp .ge 7, 3) := by decide +kernel
theorem dX0_whyNot_77 : decode cX0_whyNot 77 = .ok (.iconst 3, 1) := by decide +kernel
theorem dX0_whyNot_78 : decode cX0_whyNot 78 = .ok (.goto 4, 3) := by decide +kernel
theorem dX0_whyNot_81 : decode cX0_whyNot 81 = .ok (.iconst 0, 1) := by decide +kernel
theorem dX0_whyNot_82 : decode cX0_whyNot 82 = .ok (.ireturn, 1) := by decide +kernel
theorem dX0_whyNot_83 : decode cX0_whyNot 83 = .ok (.aload_n 0, 1) := by decide +kernel
theorem dX0_whyNot_84 : decode cX0_whyNot 84 = .ok (.getfield 15, 3) := by decide +kernel
theorem dX0_whyNot_87 : decode cX0_whyNot 87 = .ok (.iload_n 2, 1) := by decide +kernel
theorem dX0_whyNot_88 : decode cX0_whyNot 88 = .ok (.iaload, 1) := by decide +kernel
theorem dX0_whyNot_89 : decode cX0_whyNot 89 = .ok (.ifCond .ne 7, 3) := by decide +kernel
theorem dX0_whyNot_92 : decode cX0_whyNot 92 = .ok (.iconst 4, 1) := by decide +kernel
theorem dX0_whyNot_93 : decode cX0_whyNot 93 = .ok (.goto 4, 3) := by decide +kernel
theorem dX0_whyNot_96 : decode cX0_whyNot 96 = .ok (.iconst 0, 1) := by decide +kernel
theorem dX0_whyNot_97 : decode cX0_whyNot 97 = .ok (.ireturn, 1) := by decide +kernel
theorem dX0_whyNot_98 : decode cX0_whyNot 98 = .ok (.aload_n 0, 1) := by decide +kernel
theorem dX0_whyNot_99 : decode cX0_whyNot 99 = .ok (.getfield 15, 3) := by decide +kernel
theorem dX0_whyNot_102 : decode cX0_whyNot 102 = .ok (.iload_n 2, 1) := by decide +kernel
theorem dX0_whyNot_103 : decode cX0_whyNot 103 = .ok (.iaload, 1) := by decide +kernel
theorem dX0_whyNot_104 : decode cX0_whyNot 104 = .ok (.bipush 10, 2) := by decide +kernel
theorem dX0_whyNot_106 : decode cX0_whyNot 106 = .ok (.if_icmp .lt 5, 3) := by decide +kernel
theorem dX0_whyNot_109 : decode cX0_whyNot 109 = .ok (.iconst 5, 1) := by decide +kernel
theorem dX0_whyNot_110 : decode cX0_whyNot 110 = .ok (.ireturn, 1) := by decide +kernel
theorem dX0_whyNot_111 : decode cX0_whyNot 111 = .ok (.aload_n 0, 1) := by decide +kernel
theorem dX0_whyNot_112 : decode cX0_whyNot 112 = .ok (.getfield 31, 3) := by decide +kernel
theorem dX0_whyNot_115 : decode cX0_whyNot 115 = .ok (.iload_n 2, 1) := by decide +kernel
theorem dX0_whyNot_116 : decode cX0_whyNot 116 = .ok (.iaload, 1) := by decide +kernel
theorem dX0_whyNot_117 : decode cX0_whyNot 117 = .ok (.ifCond .le 8, 3) := by decide +kernel
theorem dX0_whyNot_120 : decode cX0_whyNot 120 = .ok (.bipush 6, 2) := by decide +kernel
theorem dX0_whyNot_122 : decode cX0_whyNot 122 = .ok (.goto 4, 3) := by decide +kernel
theorem dX0_whyNot_125 : decode cX0_whyNot 125 = .ok (.iconst 0, 1) := by decide +kernel
theorem dX0_whyNot_126 : decode cX0_whyNot 126 = .ok (.ireturn, 1) := by decide +kernel
theorem dX0_whyNot_127 : decode cX0_whyNot 127 = .ok (.aload_n 0, 1) := by decide +kernel
theorem dX0_whyNot_128 : decode cX0_whyNot 128 = .ok (.iload_n 2, 1) := by decide +kernel
theorem dX0_whyNot_129 : decode cX0_whyNot 129 = .ok (.iload_n 3, 1) := by decide +kernel
theorem dX0_whyNot_130 : decode cX0_whyNot 130 = .ok (.invokevirtual 82, 3) := by decide +kernel
theorem dX0_whyNot_133 : decode cX0_whyNot 133 = .ok (.ireturn, 1) := by decide +kernel
theorem dX0_whyNot_134 : decode cX0_whyNot 134 = .ok (.aload_n 0, 1) := by decide +kernel
theorem dX0_whyNot_135 : decode cX0_whyNot 135 = .ok (.getfield 21, 3) := by decide +kernel
theorem dX0_whyNot_138 : decode cX0_whyNot 138 = .ok (.iload_n 2, 1) := by decide +kernel
theorem dX0_whyNot_139 : decode cX0_whyNot 139 = .ok (.baload, 1) := by decide +kernel
theorem dX0_whyNot_140 : decode cX0_whyNot 140 = .ok (.ifCond .eq 7, 3) := by decide +kernel
theorem dX0_whyNot_143 : decode cX0_whyNot 143 = .ok (.iconst 0, 1) := by decide +kernel
theorem dX0_whyNot_144 : decode cX0_whyNot 144 = .ok (.goto 5, 3) := by decide +kernel
theorem dX0_whyNot_147 : decode cX0_whyNot 147 = .ok (.bipush 9, 2) := by decide +kernel
theorem dX0_whyNot_149 : decode cX0_whyNot 149 = .ok (.ireturn, 1) := by decide +kernel
theorem dX0_whyNotTie_0 : decode cX0_whyNotTie 0 = .ok (.aload_n 0, 1) := by decide +kernel
theorem dX0_whyNotTie_1 : decode cX0_whyNotTie 1 = .ok (.getfield 21, 3) := by decide +kernel
theorem dX0_whyNotTie_4 : decode cX0_whyNotTie 4 = .ok (.iload_n 1, 1) := by decide +kernel
theorem dX0_whyNotTie_5 : decode cX0_whyNotTie 5 = .ok (.baload, 1) := by decide +kernel
theorem dX0_whyNotTie_6 : decode cX0_whyNotTie 6 = .ok (.ifCond .eq 6, 3) := by decide +kernel
theorem dX0_whyNotTie_9 : decode cX0_whyNotTie 9 = .ok (.bipush 7, 2) := by decide +kernel
theorem dX0_whyNotTie_11 : decode cX0_whyNotTie 11 = .ok (.ireturn, 1) := by decide +kernel
theorem dX0_whyNotTie_12 : decode cX0_whyNotTie 12 = .ok (.aload_n 0, 1) := by decide +kernel
theorem dX0_whyNotTie_13 : decode cX0_whyNotTie 13 = .ok (.getfield 31, 3) := by decide +kernel
theorem dX0_whyNotTie_16 : decode cX0_whyNotTie 16 = .ok (.iload_n 1, 1) := by decide +kernel
theorem dX0_whyNotTie_17 : decode cX0_whyNotTie 17 = .ok (.iaload, 1) := by decide +kernel
theorem dX0_whyNotTie_18 : decode cX0_whyNotTie 18 = .ok (.aload_n 0, 1) := by decide +kernel
theorem dX0_whyNotTie_19 : decode cX0_whyNotTie 19 = .ok (.getfield 31, 3) := by decide +kernel
theorem dX0_whyNotTie_22 : decode cX0_whyNotTie 22 = .ok (.iload_n 1, 1) := by decide +kernel
theorem dX0_whyNotTie_23 : decode cX0_whyNotTie 23 = .ok (.iconst 1, 1) := by decide +kernel
theorem dX0_whyNotTie_24 : decode cX0_whyNotTie 24 = .ok (.iadd, 1) := by decide +kernel
theorem dX0_whyNotTie_25 : decode cX0_whyNotTie 25 = .ok (.iaload, 1) := by decide +kernel
theorem dX0_whyNotTie_26 : decode cX0_whyNotTie 26 = .ok (.isub, 1) := by decide +kernel
theorem dX0_whyNotTie_27 : decode cX0_whyNotTie 27 = .ok (.invokestatic 85, 3) := by decide +kernel
theorem dX0_whyNotTie_30 : decode cX0_whyNotTie 30 = .ok (.iload_n 2, 1) := by decide +kernel
theorem dX0_whyNotTie_31 : decode cX0_whyNotTie 31 = .ok (.if_icmp .le 8, 3) := by decide +kernel
theorem dX0_whyNotTie_34 : decode cX0_whyNotTie 34 = .ok (.bipush 8, 2) := by decide +kernel
theorem dX0_whyNotTie_36 : decode cX0_whyNotTie 36 = .ok (.goto 4, 3) := by decide +kernel
theorem dX0_whyNotTie_39 : decode cX0_whyNotTie 39 = .ok (.iconst 0, 1) := by decide +kernel
theorem dX0_whyNotTie_40 : decode cX0_whyNotTie 40 = .ok (.ireturn, 1) := by decide +kernel
theorem dX0_allGas_0 : decode cX0_allGas 0 = .ok (.iconst 0, 1) := by decide +kernel
theorem dX0_allGas_1 : decode cX0_allGas 1 = .ok (.istore_n 1, 1) := by decide +kernel
theorem dX0_allGas_2 : decode cX0_allGas 2 = .ok (.iconst 0, 1) := by decide +kernel
theorem dX0_allGas_3 : decode cX0_allGas 3 = .ok (.istore_n 2, 1) := by decide +kernel
theorem dX0_allGas_4 : decode cX0_allGas 4 = .ok (.iload_n 2, 1) := by decide +kernel
theorem dX0_allGas_5 : decode cX0_allGas 5 = .ok (.bipush 8, 2) := by decide +kernel
theorem dX0_allGas_7 : decode cX0_allGas 7 = .ok (.if_icmp .ge 18, 3) := by decide +kernel
theorem dX0_allGas_10 : decode cX0_allGas 10 = .ok (.iload_n 1, 1) := by decide +kernel
theorem dX0_allGas_11 : decode cX0_allGas 11 = .ok (.aload_n 0, 1) := by decide +kernel
theorem dX0_allGas_12 : decode cX0_allGas 12 = .ok (.getfield 9, 3) := by decide +kernel
theorem dX0_allGas_15 : decode cX0_allGas 15 = .ok (.iload_n 2, 1) := by decide +kernel
theorem dX0_allGas_16 : decode cX0_allGas 16 = .ok (.iaload, 1) := by decide +kernel
theorem dX0_allGas_17 : decode cX0_allGas 17 = .ok (.iadd, 1) := by decide +kernel
theorem dX0_allGas_18 : decode cX0_allGas 18 = .ok (.istore_n 1, 1) := by decide +kernel
theorem dX0_allGas_19 : decode cX0_allGas 19 = .ok (.iinc 2 1, 3) := by decide +kernel
theorem dX0_allGas_22 : decode cX0_allGas 22 = .ok (.goto (-18), 3) := by decide +kernel
theorem dX0_allGas_25 : decode cX0_allGas 25 = .ok (.iload_n 1, 1) := by decide +kernel
theorem dX0_allGas_26 : decode cX0_allGas 26 = .ok (.ireturn, 1) := by decide +kernel
theorem dX0_allHeights_0 : decode cX0_allHeights 0 = .ok (.iconst 0, 1) := by decide +kernel
theorem dX0_allHeights_1 : decode cX0_allHeights 1 = .ok (.istore_n 1, 1) := by decide +kernel
theorem dX0_allHeights_2 : decode cX0_allHeights 2 = .ok (.iconst 0, 1) := by decide +kernel
theorem dX0_allHeights_3 : decode cX0_allHeights 3 = .ok (.istore_n 2, 1) := by decide +kernel
theorem dX0_allHeights_4 : decode cX0_allHeights 4 = .ok (.iload_n 2, 1) := by decide +kernel
theorem dX0_allHeights_5 : decode cX0_allHeights 5 = .ok (.bipush 8, 2) := by decide +kernel
theorem dX0_allHeights_7 : decode cX0_allHeights 7 = .ok (.if_icmp .ge 18, 3) := by decide +kernel
theorem dX0_allHeights_10 : decode cX0_allHeights 10 = .ok (.iload_n 1, 1) := by decide +kernel
theorem dX0_allHeights_11 : decode cX0_allHeights 11 = .ok (.aload_n 0, 1) := by decide +kernel
theorem dX0_allHeights_12 : decode cX0_allHeights 12 = .ok (.getfield 31, 3) := by decide +kernel
theorem dX0_allHeights_15 : decode cX0_allHeights 15 = .ok (.iload_n 2, 1) := by decide +kernel
theorem dX0_allHeights_16 : decode cX0_allHeights 16 = .ok (.iaload, 1) := by decide +kernel
theorem dX0_allHeights_17 : decode cX0_allHeights 17 = .ok (.iadd, 1) := by decide +kernel
theorem dX0_allHeights_18 : decode cX0_allHeights 18 = .ok (.istore_n 1, 1) := by decide +kernel
theorem dX0_allHeights_19 : decode cX0_allHeights 19 = .ok (.iinc 2 1, 3) := by decide +kernel
theorem dX0_allHeights_22 : decode cX0_allHeights 22 = .ok (.goto (-18), 3) := by decide +kernel
theorem dX0_allHeights_25 : decode cX0_allHeights 25 = .ok (.iload_n 1, 1) := by decide +kernel
theorem dX0_allHeights_26 : decode cX0_allHeights 26 = .ok (.ireturn, 1) := by decide +kernel
theorem dX0_tiedRibbons_0 : decode cX0_tiedRibbons 0 = .ok (.iconst 0, 1) := by decide +kernel
theorem dX0_tiedRibbons_1 : decode cX0_tiedRibbons 1 = .ok (.istore_n 1, 1) := by decide +kernel
theorem dX0_tiedRibbons_2 : decode cX0_tiedRibbons 2 = .ok (.iconst 0, 1) := by decide +kernel
theorem dX0_tiedRibbons_3 : decode cX0_tiedRibbons 3 = .ok (.istore_n 2, 1) := by decide +kernel
theorem dX0_tiedRibbons_4 : decode cX0_tiedRibbons 4 = .ok (.iload_n 2, 1) := by decide +kernel
theorem dX0_tiedRibbons_5 : decode cX0_tiedRibbons 5 = .ok (.bipush 7, 2) := by decide +kernel
theorem dX0_tiedRibbons_7 : decode cX0_tiedRibbons 7 = .ok (.if_icmp .ge 26, 3) := by decide +kernel
theorem dX0_tiedRibbons_10 : decode cX0_tiedRibbons 10 = .ok (.iload_n 1, 1) := by decide +kernel
theorem dX0_tiedRibbons_11 : decode cX0_tiedRibbons 11 = .ok (.aload_n 0, 1) := by decide +kernel
theorem dX0_tiedRibbons_12 : decode cX0_tiedRibbons 12 = .ok (.getfield 21, 3) := by decide +kernel
theorem dX0_tiedRibbons_15 : decode cX0_tiedRibbons 15 = .ok (.iload_n 2, 1) := by decide +kernel
theorem dX0_tiedRibbons_16 : decode cX0_tiedRibbons 16 = .ok (.baload, 1) := by decide +kernel
theorem dX0_tiedRibbons_17 : decode cX0_tiedRibbons 17 = .ok (.ifCond .eq 7, 3) := by decide +kernel
theorem dX0_tiedRibbons_20 : decode cX0_tiedRibbons 20 = .ok (.iconst 1, 1) := by decide +kernel
theorem dX0_tiedRibbons_21 : decode cX0_tiedRibbons 21 = .ok (.goto 4, 3) := by decide +kernel
theorem dX0_tiedRibbons_24 : decode cX0_tiedRibbons 24 = .ok (.iconst 0, 1) := by decide +kernel
theorem dX0_tiedRibbons_25 : decode cX0_tiedRibbons 25 = .ok (.iadd, 1) := by decide +kernel
theorem dX0_tiedRibbons_26 : decode cX0_tiedRibbons 26 = .ok (.istore_n 1, 1) := by decide +kernel
theorem dX0_tiedRibbons_27 : decode cX0_tiedRibbons 27 = .ok (.iinc 2 1, 3) := by decide +kernel
theorem dX0_tiedRibbons_30 : decode cX0_tiedRibbons 30 = .ok (.goto (-26), 3) := by decide +kernel
theorem dX0_tiedRibbons_33 : decode cX0_tiedRibbons 33 = .ok (.iload_n 1, 1) := by decide +kernel
theorem dX0_tiedRibbons_34 : decode cX0_tiedRibbons 34 = .ok (.ireturn, 1) := by decide +kernel
theorem dX0_highest_0 : decode cX0_highest 0 = .ok (.iconst 0, 1) := by decide +kernel
theorem dX0_highest_1 : decode cX0_highest 1 = .ok (.istore_n 1, 1) := by decide +kernel
theorem dX0_highest_2 : decode cX0_highest 2 = .ok (.iconst 1, 1) := by decide +kernel
theorem dX0_highest_3 : decode cX0_highest 3 = .ok (.istore_n 2, 1) := by decide +kernel
theorem dX0_highest_4 : decode cX0_highest 4 = .ok (.iload_n 2, 1) := by decide +kernel
theorem dX0_highest_5 : decode cX0_highest 5 = .ok (.bipush 8, 2) := by decide +kernel
theorem dX0_highest_7 : decode cX0_highest 7 = .ok (.if_icmp .ge 30, 3) := by decide +kernel
theorem dX0_highest_10 : decode cX0_highest 10 = .ok (.aload_n 0, 1) := by decide +kernel
theorem dX0_highest_11 : decode cX0_highest 11 = .ok (.getfield 31, 3) := by decide +kernel
theorem dX0_highest_14 : decode cX0_highest 14 = .ok (.iload_n 2, 1) := by decide +kernel
theorem dX0_highest_15 : decode cX0_highest 15 = .ok (.iaload, 1) := by decide +kernel
theorem dX0_highest_16 : decode cX0_highest 16 = .ok (.aload_n 0, 1) := by decide +kernel
theorem dX0_highest_17 : decode cX0_highest 17 = .ok (.getfield 31, 3) := by decide +kernel
theorem dX0_highest_20 : decode cX0_highest 20 = .ok (.iload_n 1, 1) := by decide +kernel
theorem dX0_highest_21 : decode cX0_highest 21 = .ok (.iaload, 1) := by decide +kernel
theorem dX0_highest_22 : decode cX0_highest 22 = .ok (.if_icmp .le 7, 3) := by decide +kernel
theorem dX0_highest_25 : decode cX0_highest 25 = .ok (.iload_n 2, 1) := by decide +kernel
theorem dX0_highest_26 : decode cX0_highest 26 = .ok (.goto 4, 3) := by decide +kernel
theorem dX0_highest_29 : decode cX0_highest 29 = .ok (.iload_n 1, 1) := by decide +kernel
theorem dX0_highest_30 : decode cX0_highest 30 = .ok (.istore_n 1, 1) := by decide +kernel
theorem dX0_highest_31 : decode cX0_highest 31 = .ok (.iinc 2 1, 3) := by decide +kernel
theorem dX0_highest_34 : decode cX0_highest 34 = .ok (.goto (-30), 3) := by decide +kernel
theorem dX0_highest_37 : decode cX0_highest 37 = .ok (.iload_n 1, 1) := by decide +kernel
theorem dX0_highest_38 : decode cX0_highest 38 = .ok (.ireturn, 1) := by decide +kernel
theorem dX0_grounded_0 : decode cX0_grounded 0 = .ok (.iconst 0, 1) := by decide +kernel
theorem dX0_grounded_1 : decode cX0_grounded 1 = .ok (.istore_n 1, 1) := by decide +kernel
theorem dX0_grounded_2 : decode cX0_grounded 2 = .ok (.iconst 0, 1) := by decide +kernel
theorem dX0_grounded_3 : decode cX0_grounded 3 = .ok (.istore_n 2, 1) := by decide +kernel
theorem dX0_grounded_4 : decode cX0_grounded 4 = .ok (.iload_n 2, 1) := by decide +kernel
theorem dX0_grounded_5 : decode cX0_grounded 5 = .ok (.bipush 8, 2) := by decide +kernel
theorem dX0_grounded_7 : decode cX0_grounded 7 = .ok (.if_icmp .ge 26, 3) := by decide +kernel
theorem dX0_grounded_10 : decode cX0_grounded 10 = .ok (.iload_n 1, 1) := by decide +kernel
theorem dX0_grounded_11 : decode cX0_grounded 11 = .ok (.aload_n 0, 1) := by decide +kernel
theorem dX0_grounded_12 : decode cX0_grounded 12 = .ok (.getfield 31, 3) := by decide +kernel
theorem dX0_grounded_15 : decode cX0_grounded 15 = .ok (.iload_n 2, 1) := by decide +kernel
theorem dX0_grounded_16 : decode cX0_grounded 16 = .ok (.iaload, 1) := by decide +kernel
theorem dX0_grounded_17 : decode cX0_grounded 17 = .ok (.ifCond .ne 7, 3) := by decide +kernel
theorem dX0_grounded_20 : decode cX0_grounded 20 = .ok (.iconst 1, 1) := by decide +kernel
theorem dX0_grounded_21 : decode cX0_grounded 21 = .ok (.goto 4, 3) := by decide +kernel
theorem dX0_grounded_24 : decode cX0_grounded 24 = .ok (.iconst 0, 1) := by decide +kernel
theorem dX0_grounded_25 : decode cX0_grounded 25 = .ok (.iadd, 1) := by decide +kernel
theorem dX0_grounded_26 : decode cX0_grounded 26 = .ok (.istore_n 1, 1) := by decide +kernel
theorem dX0_grounded_27 : decode cX0_grounded 27 = .ok (.iinc 2 1, 3) := by decide +kernel
theorem dX0_grounded_30 : decode cX0_grounded 30 = .ok (.goto (-26), 3) := by decide +kernel
theorem dX0_grounded_33 : decode cX0_grounded 33 = .ok (.iload_n 1, 1) := by decide +kernel
theorem dX0_grounded_34 : decode cX0_grounded 34 = .ok (.ireturn, 1) := by decide +kernel
set_option maxRecDepth 20000 in
theorem ggX1_init_X0_init : GoodIn wsX1_init wsX0_init := goodIn_r _ [13, 14, 2, 3, 8, 15, 16, 17, 18, 19, 20, 21, 22, 23, 24, 25, 26, 27, 28, 29, 6, 30, 31, 32, 33, 34, 35, 36, 37, 38, 39, 40, 41, 42, 43, 44, 45, 46, 47, 48, 49, 50, 51, 52, 53, 54, 55, 56] (by decide +kernel) (by decide +kernel)
set_option maxRecDepth 20000 in
theorem gX1_init_X0_init : GoodIn wsX1_init (wsX0_init) := ggX1_init_X0_init
theorem dX1_init_0 : decode cX1_init 0 = .ok (.aload_n 0, 1) := by decide +kernel
theorem dX1_init_1 : decode cX1_init 1 = .ok (.invokespecial 3, 3) := by decide +kernel
theorem dX1_init_4 : decode cX1_init 4 = .ok (.aload_n 0, 1) := by decide +kernel
theorem dX1_init_5 : decode cX1_init 5 = .ok (.new 9, 3) := by decide +kernel
theorem dX1_init_8 : decode cX1_init 8 = .ok (.dup, 1) := by decide +kernel
theorem dX1_init_9 : decode cX1_init 9 = .ok (.invokespecial 11, 3) := by decide +kernel
theorem dX1_init_12 : decode cX1_init 12 = .ok (.putfield 12, 3) := by decide +kernel
theorem dX1_init_15 : decode cX1_init 15 = .ok (.aload_n 0, 1) := by decide +kernel
theorem dX1_init_16 : decode cX1_init 16 = .ok (.bipush 8, 2) := by decide +kernel
theorem dX1_init_18 : decode cX1_init 18 = .ok (.newarray .int, 2) := by decide +kernel
theorem dX1_init_20 : decode cX1_init 20 = .ok (.putfield 18, 3) := by decide +kernel
theorem dX1_init_23 : decode cX1_init 23 = .ok (.aload_n 0, 1) := by decide +kernel
theorem dX1_init_24 : decode cX1_init 24 = .ok (.sipush (-1000), 3) := by decide +kernel
theorem dX1_init_27 : decode cX1_init 27 = .ok (.putfield 22, 3) := by decide +kernel
theorem dX1_init_30 : decode cX1_init 30 = .ok (.return_, 1) := by decide +kernel
set_option maxRecDepth 20000 in
theorem ggX1_lookAhead_X0_copyFrom : GoodIn wsX1_lookAhead wsX0_copyFrom := goodIn_r _ [8, 9, 10, 11, 12, 13, 14, 15, 16, 17, 18, 19, 72, 73, 74, 75, 76, 77, 78] (by decide +kernel) (by decide +kernel)
set_option maxRecDepth 20000 in
theorem gX1_lookAhead_X0_copyFrom : GoodIn wsX1_lookAhead (wsV RX1 26 RX0 yX0_copyFrom wsX0_copyFrom) := goodIn_app (goodIn_of _ (by decide +kernel)) ggX1_lookAhead_X0_copyFrom
set_option maxRecDepth 20000 in
theorem ggX1_lookAhead_J7_fill_53178 : GoodIn wsX1_lookAhead wsJ7_fill_53178 := goodIn_r _ [23] (by decide +kernel) (by decide +kernel)
set_option maxRecDepth 20000 in
theorem gX1_lookAhead_J7_fill_53178 : GoodIn wsX1_lookAhead (va_wsS RX1 30 yJ7_fill_53178 wsJ7_fill_53178) := goodIn_app (goodIn_of _ (by decide +kernel)) ggX1_lookAhead_J7_fill_53178
set_option maxRecDepth 20000 in
theorem ggX1_lookAhead_X1_markLandings : GoodIn wsX1_lookAhead wsX1_markLandings := goodIn_r _ [28, 1, 29, 2, 69, 70, 71, 72, 73, 74, 75, 76, 77, 78] (by decide +kernel) (by decide +kernel)
set_option maxRecDepth 20000 in
theorem gX1_lookAhead_X1_markLandings : GoodIn wsX1_lookAhead (wsV RX1 36 RX1 yX1_markLandings wsX1_markLandings) := goodIn_app (goodIn_of _ (by decide +kernel)) ggX1_lookAhead_X1_markLandings
set_option maxRecDepth 20000 in
theorem ggX1_lookAhead_X0_leakHour : GoodIn wsX1_lookAhead wsX0_leakHour := goodIn_r _ [33, 9, 15, 34, 35, 36, 37, 38, 39, 40, 7, 41, 19, 42, 43, 44, 45, 46, 47, 48, 49, 50, 51, 52, 14, 53, 54, 55, 56, 16, 17, 72, 73, 74, 75, 76, 77, 78] (by decide +kernel) (by decide +kernel)
set_option maxRecDepth 20000 in
theorem gX1_lookAhead_X0_leakHour : GoodIn wsX1_lookAhead (wsV RX1 40 RX0 yX0_leakHour wsX0_leakHour) := goodIn_app (goodIn_of _ (by decide +kernel)) ggX1_lookAhead_X0_leakHour
set_option maxRecDepth 20000 in
theorem ggX1_lookAhead_X0_snapHour : GoodIn wsX1_lookAhead wsX0_snapHour := goodIn_r _ [60, 18, 16, 61, 62, 63, 7, 64, 19, 17, 65, 66, 67, 68, 42, 43, 44, 45, 34, 35, 36, 37, 46, 47, 48, 49, 50, 51, 52, 9, 14, 38, 39, 40, 41, 53, 54, 55, 56, 72, 73, 74, 75, 76, 77, 78] (by decide +kernel) (by decide +kernel)
set_option maxRecDepth 20000 in
theorem gX1_lookAhead_X0_snapHour : GoodIn wsX1_lookAhead (wsV RX1 44 RX0 yX0_snapHour wsX0_snapHour) := goodIn_app (goodIn_of _ (by decide +kernel)) ggX1_lookAhead_X0_snapHour
theorem dX1_lookAhead_0 : decode cX1_lookAhead 0 = .ok (.aload_n 0, 1) := by decide +kernel
theorem dX1_lookAhead_1 : decode cX1_lookAhead 1 = .ok (.getfield 12, 3) := by decide +kernel
theorem dX1_lookAhead_4 : decode cX1_lookAhead 4 = .ok (.aload_n 1, 1) := by decide +kernel
theorem dX1_lookAhead_5 : decode cX1_lookAhead 5 = .ok (.invokevirtual 26, 3) := by decide +kernel
theorem dX1_lookAhead_8 : decode cX1_lookAhead 8 = .ok (.aload_n 0, 1) := by decide +kernel
theorem dX1_lookAhead_9 : decode cX1_lookAhead 9 = .ok (.getfield 18, 3) := by decide +kernel
theorem dX1_lookAhead_12 : decode cX1_lookAhead 12 = .ok (.sipush (-1000), 3) := by decide +kernel
theorem dX1_lookAhead_15 : decode cX1_lookAhead 15 = .ok (.invokestatic 30, 3) := by decide +kernel
theorem dX1_lookAhead_18 : decode cX1_lookAhead 18 = .ok (.aload_n 0, 1) := by decide +kernel
theorem dX1_lookAhead_19 : decode cX1_lookAhead 19 = .ok (.sipush (-1000), 3) := by decide +kernel
theorem dX1_lookAhead_22 : decode cX1_lookAhead 22 = .ok (.putfield 22, 3) := by decide +kernel
theorem dX1_lookAhead_25 : decode cX1_lookAhead 25 = .ok (.aload_n 0, 1) := by decide +kernel
theorem dX1_lookAhead_26 : decode cX1_lookAhead 26 = .ok (.iconst 0, 1) := by decide +kernel
theorem dX1_lookAhead_27 : decode cX1_lookAhead 27 = .ok (.invokevirtual 36, 3) := by decide +kernel
theorem dX1_lookAhead_30 : decode cX1_lookAhead 30 = .ok (.iconst 1, 1) := by decide +kernel
theorem dX1_lookAhead_31 : decode cX1_lookAhead 31 = .ok (.istore_n 2, 1) := by decide +kernel
theorem dX1_lookAhead_32 : decode cX1_lookAhead 32 = .ok (.iconst 1, 1) := by decide +kernel
theorem dX1_lookAhead_33 : decode cX1_lookAhead 33 = .ok (.istore_n 3, 1) := by decide +kernel
theorem dX1_lookAhead_34 : decode cX1_lookAhead 34 = .ok (.iload_n 3, 1) := by decide +kernel
theorem dX1_lookAhead_35 : decode cX1_lookAhead 35 = .ok (.sipush 200, 3) := by decide +kernel
theorem dX1_lookAhead_38 : decode cX1_lookAhead 38 = .ok (.if_icmp .gt 72, 3) := by decide +kernel
theorem dX1_lookAhead_41 : decode cX1_lookAhead 41 = .ok (.iload_n 2, 1) := by decide +kernel
theorem dX1_lookAhead_42 : decode cX1_lookAhead 42 = .ok (.ifCond .eq 68, 3) := by decide +kernel
theorem dX1_lookAhead_45 : decode cX1_lookAhead 45 = .ok (.aload_n 0, 1) := by decide +kernel
theorem dX1_lookAhead_46 : decode cX1_lookAhead 46 = .ok (.getfield 12, 3) := by decide +kernel
theorem dX1_lookAhead_49 : decode cX1_lookAhead 49 = .ok (.invokevirtual 40, 3) := by decide +kernel
theorem dX1_lookAhead_52 : decode cX1_lookAhead 52 = .ok (.istore 4, 2) := by decide +kernel
theorem dX1_lookAhead_54 : decode cX1_lookAhead 54 = .ok (.aload_n 0, 1) := by decide +kernel
theorem dX1_lookAhead_55 : decode cX1_lookAhead 55 = .ok (.getfield 12, 3) := by decide +kernel
theorem dX1_lookAhead_58 : decode cX1_lookAhead 58 = .ok (.invokevirtual 44, 3) := by decide +kernel
theorem dX1_lookAhead_61 : decode cX1_lookAhead 61 = .ok (.istore 5, 2) := by decide +kernel
theorem dX1_lookAhead_63 : decode cX1_lookAhead 63 = .ok (.iload 5, 2) := by decide +kernel
theorem dX1_lookAhead_65 : decode cX1_lookAhead 65 = .ok (.ifCond .le 18, 3) := by decide +kernel
theorem dX1_lookAhead_68 : decode cX1_lookAhead 68 = .ok (.aload_n 0, 1) := by decide +kernel
theorem dX1_lookAhead_69 : decode cX1_lookAhead 69 = .ok (.getfield 22, 3) := by decide +kernel
theorem dX1_lookAhead_72 : decode cX1_lookAhead 72 = .ok (.sipush (-1000), 3) := by decide +kernel
theorem dX1_lookAhead_75 : decode cX1_lookAhead 75 = .ok (.if_icmp .ne 8, 3) := by decide +kernel
theorem dX1_lookAhead_78 : decode cX1_lookAhead 78 = .ok (.aload_n 0, 1) := by decide +kernel
theorem dX1_lookAhead_79 : decode cX1_lookAhead 79 = .ok (.iload_n 3, 1) := by decide +kernel
theorem dX1_lookAhead_80 : decode cX1_lookAhead 80 = .ok (.putfield 22, 3) := by decide +kernel
theorem dX1_lookAhead_83 : decode cX1_lookAhead 83 = .ok (.aload_n 0, 1) := by decide +kernel
theorem dX1_lookAhead_84 : decode cX1_lookAhead 84 = .ok (.iload_n 3, 1) := by decide +kernel
theorem dX1_lookAhead_85 : decode cX1_lookAhead 85 = .ok (.invokevirtual 36, 3) := by decide +kernel
theorem dX1_lookAhead_88 : decode cX1_lookAhead 88 = .ok (.iload 4, 2) := by decide +kernel
theorem dX1_lookAhead_90 : decode cX1_lookAhead 90 = .ok (.ifCond .gt 8, 3) := by decide +kernel
theorem dX1_lookAhead_93 : decode cX1_lookAhead 93 = .ok (.iload 5, 2) := by decide +kernel
theorem dX1_lookAhead_95 : decode cX1_lookAhead 95 = .ok (.ifCond .le 7, 3) := by decide +kernel
theorem dX1_lookAhead_98 : decode cX1_lookAhead 98 = .ok (.iconst 1, 1) := by decide +kernel
theorem dX1_lookAhead_99 : decode cX1_lookAhead 99 = .ok (.goto 4, 3) := by decide +kernel
theorem dX1_lookAhead_102 : decode cX1_lookAhead 102 = .ok (.iconst 0, 1) := by decide +kernel
theorem dX1_lookAhead_103 : decode cX1_lookAhead 103 = .ok (.istore_n 2, 1) := by decide +kernel
theorem dX1_lookAhead_104 : decode cX1_lookAhead 104 = .ok (.iinc 3 1, 3) := by decide +kernel
theorem dX1_lookAhead_107 : decode cX1_lookAhead 107 = .ok (.goto (-73), 3) := by decide +kernel
theorem dX1_lookAhead_110 : decode cX1_lookAhead 110 = .ok (.return_, 1) := by decide +kernel
theorem dX1_markLandings_0 : decode cX1_markLandings 0 = .ok (.iconst 0, 1) := by decide +kernel
theorem dX1_markLandings_1 : decode cX1_markLandings 1 = .ok (.istore_n 2, 1) := by decide +kernel
theorem dX1_markLandings_2 : decode cX1_markLandings 2 = .ok (.iload_n 2, 1) := by decide +kernel
theorem dX1_markLandings_3 : decode cX1_markLandings 3 = .ok (.bipush 8, 2) := by decide +kernel
theorem dX1_markLandings_5 : decode cX1_markLandings 5 = .ok (.if_icmp .ge 40, 3) := by decide +kernel
theorem dX1_markLandings_8 : decode cX1_markLandings 8 = .ok (.aload_n 0, 1) := by decide +kernel
theorem dX1_markLandings_9 : decode cX1_markLandings 9 = .ok (.getfield 12, 3) := by decide +kernel
theorem dX1_markLandings_12 : decode cX1_markLandings 12 = .ok (.getfield 47, 3) := by decide +kernel
theorem dX1_markLandings_15 : decode cX1_markLandings 15 = .ok (.iload_n 2, 1) := by decide +kernel
theorem dX1_markLandings_16 : decode cX1_markLandings 16 = .ok (.iaload, 1) := by decide +kernel
theorem dX1_markLandings_17 : decode cX1_markLandings 17 = .ok (.ifCond .ne 22, 3) := by decide +kernel
theorem dX1_markLandings_20 : decode cX1_markLandings 20 = .ok (.aload_n 0, 1) := by decide +kernel
theorem dX1_markLandings_21 : decode cX1_markLandings 21 = .ok (.getfield 18, 3) := by decide +kernel
theorem dX1_markLandings_24 : decode cX1_markLandings 24 = .ok (.iload_n 2, 1) := by decide +kernel
theorem dX1_markLandings_25 : decode cX1_markLandings 25 = .ok (.iaload, 1) := by decide +kernel
theorem dX1_markLandings_26 : decode cX1_markLandings 26 = .ok (.sipush (-1000), 3) := by decide +kernel
theorem dX1_markLandings_29 : decode cX1_markLandings 29 = .ok (.if_icmp .ne 10, 3) := by decide +kernel
theorem dX1_markLandings_32 : decode cX1_markLandings 32 = .ok (.aload_n 0, 1) := by decide +kernel
theorem dX1_markLandings_33 : decode cX1_markLandings 33 = .ok (.getfield 18, 3) := by decide +kernel
theorem dX1_markLandings_36 : decode cX1_markLandings 36 = .ok (.iload_n 2, 1) := by decide +kernel
theorem dX1_markLandings_37 : decode cX1_markLandings 37 = .ok (.iload_n 1, 1) := by decide +kernel
theorem dX1_markLandings_38 : decode cX1_markLandings 38 = .ok (.iastore, 1) := by decide +kernel
theorem dX1_markLandings_39 : decode cX1_markLandings 39 = .ok (.iinc 2 1, 3) := by decide +kernel
theorem dX1_markLandings_42 : decode cX1_markLandings 42 = .ok (.goto (-40), 3) := by decide +kernel
theorem dX1_markLandings_45 : decode cX1_markLandings 45 = .ok (.return_, 1) := by decide +kernel
set_option maxRecDepth 20000 in
theorem ggX2_init_X4_init : GoodIn wsX2_init wsX4_init := goodIn_r _ [10, 11, 2, 3, 12, 13, 14, 15, 16, 17, 18, 19, 20, 21, 22, 23, 24, 25, 26, 27, 28, 29, 30, 31, 32, 33, 34, 35, 36, 37, 38, 39, 40, 41, 42, 43, 44, 45, 46, 47, 48, 49, 50, 51, 52, 53, 54, 55, 56, 57, 58, 59, 60, 61, 62, 63, 64, 65, 66, 67, 68, 69, 70, 71, 72, 73, 74, 75, 76, 91, 92, 93, 94, 95, 96, 97, 79, 80, 81, 82, 83, 84, 85, 86, 87, 88, 89, 90, 98, 99, 100, 101] (by decide +kernel) (by decide +kernel)
set_option maxRecDepth 20000 in
theorem gX2_init_X4_init_n21 : GoodIn wsX2_init (wsX4_init) := ggX2_init_X4_init
theorem dX2_init_0 : decode cX2_init 0 = .ok (.aload_n 0, 1) := by decide +kernel
theorem dX2_init_1 : decode cX2_init 1 = .ok (.invokespecial 3, 3) := by decide +kernel
theorem dX2_init_4 : decode cX2_init 4 = .ok (.aload_n 0, 1) := by decide +kernel
theorem dX2_init_5 : decode cX2_init 5 = .ok (.bipush 6, 2) := by decide +kernel
theorem dX2_init_7 : decode cX2_init 7 = .ok (.anewarray 9, 3) := by decide +kernel
theorem dX2_init_10 : decode cX2_init 10 = .ok (.putfield 11, 3) := by decide +kernel
theorem dX2_init_13 : decode cX2_init 13 = .ok (.aload_n 0, 1) := by decide +kernel
theorem dX2_init_14 : decode cX2_init 14 = .ok (.iconst 0, 1) := by decide +kernel
theorem dX2_init_15 : decode cX2_init 15 = .ok (.putfield 17, 3) := by decide +kernel
theorem dX2_init_18 : decode cX2_init 18 = .ok (.iconst 0, 1) := by decide +kernel
theorem dX2_init_19 : decode cX2_init 19 = .ok (.istore_n 1, 1) := by decide +kernel
theorem dX2_init_20 : decode cX2_init 20 = .ok (.iload_n 1, 1) := by decide +kernel
theorem dX2_init_21 : decode cX2_init 21 = .ok (.bipush 6, 2) := by decide +kernel
theorem dX2_init_23 : decode cX2_init 23 = .ok (.if_icmp .ge 22, 3) := by decide +kernel
theorem dX2_init_26 : decode cX2_init 26 = .ok (.aload_n 0, 1) := by decide +kernel
theorem dX2_init_27 : decode cX2_init 27 = .ok (.getfield 11, 3) := by decide +kernel
theorem dX2_init_30 : decode cX2_init 30 = .ok (.iload_n 1, 1) := by decide +kernel
theorem dX2_init_31 : decode cX2_init 31 = .ok (.new 9, 3) := by decide +kernel
theorem dX2_init_34 : decode cX2_init 34 = .ok (.dup, 1) := by decide +kernel
theorem dX2_init_35 : decode cX2_init 35 = .ok (.invokespecial 21, 3) := by decide +kernel
theorem dX2_init_38 : decode cX2_init 38 = .ok (.aastore, 1) := by decide +kernel
theorem dX2_init_39 : decode cX2_init 39 = .ok (.iinc 1 1, 3) := by decide +kernel
theorem dX2_init_42 : decode cX2_init 42 = .ok (.goto (-22), 3) := by decide +kernel
theorem dX2_init_45 : decode cX2_init 45 = .ok (.return_, 1) := by decide +kernel
set_option maxRecDepth 20000 in
theorem ggX2_save_X2_forgetOldest : GoodIn wsX2_save wsX2_forgetOldest := goodIn_r _ [7, 2, 1, 52, 53] (by decide +kernel) (by decide +kernel)
set_option maxRecDepth 20000 in
theorem gX2_save_X2_forgetOldest : GoodIn wsX2_save (wsV RX2 22 RX2 yX2_forgetOldest wsX2_forgetOldest) := goodIn_app (goodIn_of _ (by decide +kernel)) ggX2_save_X2_forgetOldest
set_option maxRecDepth 20000 in
theorem ggX2_save_X4_copyFrom : GoodIn wsX2_save wsX4_copyFrom := goodIn_r _ [12, 13, 14, 15, 16, 17, 18, 19, 20, 21, 22, 23, 24, 25, 26, 27, 28, 29, 30, 31, 32, 33, 34, 35, 36, 37, 38, 39, 40, 41, 42, 43, 44, 45, 46, 47, 48, 49, 50, 51, 54, 55, 56, 57, 58, 59, 60, 61, 62, 63, 64, 65, 66, 67, 68, 69, 70, 71, 72, 73, 74, 75, 76] (by decide +kernel) (by decide +kernel)
set_option maxRecDepth 20000 in
theorem gX2_save_X4_copyFrom : GoodIn wsX2_save (wsV RX2 25 RX4 yX4_copyFrom wsX4_copyFrom) := goodIn_app (goodIn_of _ (by decide +kernel)) ggX2_save_X4_copyFrom
theorem dX2_save_0 : decode cX2_save 0 = .ok (.aload_n 0, 1) := by decide +kernel
theorem dX2_save_1 : decode cX2_save 1 = .ok (.getfield 17, 3) := by decide +kernel
theorem dX2_save_4 : decode cX2_save 4 = .ok (.bipush 6, 2) := by decide +kernel
theorem dX2_save_6 : decode cX2_save 6 = .ok (.if_icmp .lt 7, 3) := by decide +kernel
theorem dX2_save_9 : decode cX2_save 9 = .ok (.aload_n 0, 1) := by decide +kernel
theorem dX2_save_10 : decode cX2_save 10 = .ok (.invokevirtual 22, 3) := by decide +kernel
theorem dX2_save_13 : decode cX2_save 13 = .ok (.aload_n 0, 1) := by decide +kernel
theorem dX2_save_14 : decode cX2_save 14 = .ok (.getfield 11, 3) := by decide +kernel
theorem dX2_save_17 : decode cX2_save 17 = .ok (.aload_n 0, 1) := by decide +kernel
theorem dX2_save_18 : decode cX2_save 18 = .ok (.getfield 17, 3) := by decide +kernel
theorem dX2_save_21 : decode cX2_save 21 = .ok (.aaload, 1) := by decide +kernel
theorem dX2_save_22 : decode cX2_save 22 = .ok (.aload_n 1, 1) := by decide +kernel
theorem dX2_save_23 : decode cX2_save 23 = .ok (.invokevirtual 25, 3) := by decide +kernel
theorem dX2_save_26 : decode cX2_save 26 = .ok (.aload_n 0, 1) := by decide +kernel
theorem dX2_save_27 : decode cX2_save 27 = .ok (.dup, 1) := by decide +kernel
theorem dX2_save_28 : decode cX2_save 28 = .ok (.getfield 17, 3) := by decide +kernel
theorem dX2_save_31 : decode cX2_save 31 = .ok (.iconst 1, 1) := by decide +kernel
theorem dX2_save_32 : decode cX2_save 32 = .ok (.iadd, 1) := by decide +kernel
theorem dX2_save_33 : decode cX2_save 33 = .ok (.putfield 17, 3) := by decide +kernel
theorem dX2_save_36 : decode cX2_save 36 = .ok (.return_, 1) := by decide +kernel
theorem dX2_forgetOldest_0 : decode cX2_forgetOldest 0 = .ok (.aload_n 0, 1) := by decide +kernel
theorem dX2_forgetOldest_1 : decode cX2_forgetOldest 1 = .ok (.getfield 11, 3) := by decide +kernel
theorem dX2_forgetOldest_4 : decode cX2_forgetOldest 4 = .ok (.iconst 0, 1) := by decide +kernel
theorem dX2_forgetOldest_5 : decode cX2_forgetOldest 5 = .ok (.aaload, 1) := by decide +kernel
theorem dX2_forgetOldest_6 : decode cX2_forgetOldest 6 = .ok (.astore_n 1, 1) := by decide +kernel
theorem dX2_forgetOldest_7 : decode cX2_forgetOldest 7 = .ok (.iconst 1, 1) := by decide +kernel
theorem dX2_forgetOldest_8 : decode cX2_forgetOldest 8 = .ok (.istore_n 2, 1) := by decide +kernel
theorem dX2_forgetOldest_9 : decode cX2_forgetOldest 9 = .ok (.iload_n 2, 1) := by decide +kernel
theorem dX2_forgetOldest_10 : decode cX2_forgetOldest 10 = .ok (.bipush 6, 2) := by decide +kernel
theorem dX2_forgetOldest_12 : decode cX2_forgetOldest 12 = .ok (.if_icmp .ge 23, 3) := by decide +kernel
theorem dX2_forgetOldest_15 : decode cX2_forgetOldest 15 = .ok (.aload_n 0, 1) := by decide +kernel
theorem dX2_forgetOldest_16 : decode cX2_forgetOldest 16 = .ok (.getfield 11, 3) := by decide +kernel
theorem dX2_forgetOldest_19 : decode cX2_forgetOldest 19 = .ok (.iload_n 2, 1) := by decide +kernel
theorem dX2_forgetOldest_20 : decode cX2_forgetOldest 20 = .ok (.iconst 1, 1) := by decide +kernel
theorem dX2_forgetOldest_21 : decode cX2_forgetOldest 21 = .ok (.isub, 1) := by decide +kernel
theorem dX2_forgetOldest_22 : decode cX2_forgetOldest 22 = .ok (.aload_n 0, 1) := by decide +kernel
theorem dX2_forgetOldest_23 : decode cX2_forgetOldest 23 = .ok (.getfield 11, 3) := by decide +kernel
theorem dX2_forgetOldest_26 : decode cX2_forgetOldest 26 = .ok (.iload_n 2, 1) := by decide +kernel
theorem dX2_forgetOldest_27 : decode cX2_forgetOldest 27 = .ok (.aaload, 1) := by decide +kernel
theorem dX2_forgetOldest_28 : decode cX2_forgetOldest 28 = .ok (.aastore, 1) := by decide +kernel
theorem dX2_forgetOldest_29 : decode cX2_forgetOldest 29 = .ok (.iinc 2 1, 3) := by decide +kernel
theorem dX2_forgetOldest_32 : decode cX2_forgetOldest 32 = .ok (.goto (-23), 3) := by decide +kernel
theorem dX2_forgetOldest_35 : decode cX2_forgetOldest 35 = .ok (.aload_n 0, 1) := by decide +kernel
theorem dX2_forgetOldest_36 : decode cX2_forgetOldest 36 = .ok (.getfield 11, 3) := by decide +kernel
theorem dX2_forgetOldest_39 : decode cX2_forgetOldest 39 = .ok (.iconst 5, 1) := by decide +kernel
theorem dX2_forgetOldest_40 : decode cX2_forgetOldest 40 = .ok (.aload_n 1, 1) := by decide +kernel
theorem dX2_forgetOldest_41 : decode cX2_forgetOldest 41 = .ok (.aastore, 1) := by decide +kernel
theorem dX2_forgetOldest_42 : decode cX2_forgetOldest 42 = .ok (.aload_n 0, 1) := by decide +kernel
theorem dX2_forgetOldest_43 : decode cX2_forgetOldest 43 = .ok (.iconst 5, 1) := by decide +kernel
theorem dX2_forgetOldest_44 : decode cX2_forgetOldest 44 = .ok (.putfield 17, 3) := by decide +kernel
theorem dX2_forgetOldest_47 : decode cX2_forgetOldest 47 = .ok (.return_, 1) := by decide +kernel
set_option maxRecDepth 20000 in
theorem ggX2_restore_X4_copyFrom : GoodIn wsX2_restore wsX4_copyFrom := goodIn_r _ [7, 8, 9, 10, 11, 12, 13, 14, 15, 16, 17, 18, 19, 20, 21, 22, 23, 24, 25, 26, 27, 28, 29, 30, 31, 32, 33, 34, 35, 36, 37, 38, 39, 40, 41, 42, 43, 44, 45, 46, 49, 50, 51, 52, 53, 54, 55, 56, 57, 58, 59, 60, 61, 62, 63, 64, 65, 66, 67, 68, 69, 70, 71] (by decide +kernel) (by decide +kernel)
set_option maxRecDepth 20000 in
theorem gX2_restore_X4_copyFrom : GoodIn wsX2_restore (wsV RX2 25 RX4 yX4_copyFrom wsX4_copyFrom) := goodIn_app (goodIn_of _ (by decide +kernel)) ggX2_restore_X4_copyFrom
theorem dX2_restore_0 : decode cX2_restore 0 = .ok (.aload_n 0, 1) := by decide +kernel
theorem dX2_restore_1 : decode cX2_restore 1 = .ok (.getfield 17, 3) := by decide +kernel
theorem dX2_restore_4 : decode cX2_restore 4 = .ok (.ifCond .le 26, 3) := by decide +kernel
theorem dX2_restore_7 : decode cX2_restore 7 = .ok (.aload_n 0, 1) := by decide +kernel
theorem dX2_restore_8 : decode cX2_restore 8 = .ok (.dup, 1) := by decide +kernel
theorem dX2_restore_9 : decode cX2_restore 9 = .ok (.getfield 17, 3) := by decide +kernel
theorem dX2_restore_12 : decode cX2_restore 12 = .ok (.iconst 1, 1) := by decide +kernel
theorem dX2_restore_13 : decode cX2_restore 13 = .ok (.isub, 1) := by decide +kernel
theorem dX2_restore_14 : decode cX2_restore 14 = .ok (.putfield 17, 3) := by decide +kernel
theorem dX2_restore_17 : decode cX2_restore 17 = .ok (.aload_n 1, 1) := by decide +kernel
theorem dX2_restore_18 : decode cX2_restore 18 = .ok (.aload_n 0, 1) := by decide +kernel
theorem dX2_restore_19 : decode cX2_restore 19 = .ok (.getfield 11, 3) := by decide +kernel
theorem dX2_restore_22 : decode cX2_restore 22 = .ok (.aload_n 0, 1) := by decide +kernel
theorem dX2_restore_23 : decode cX2_restore 23 = .ok (.getfield 17, 3) := by decide +kernel
theorem dX2_restore_26 : decode cX2_restore 26 = .ok (.aaload, 1) := by decide +kernel
theorem dX2_restore_27 : decode cX2_restore 27 = .ok (.invokevirtual 25, 3) := by decide +kernel
theorem dX2_restore_30 : decode cX2_restore 30 = .ok (.return_, 1) := by decide +kernel
theorem dX3_init_0 : decode cX3_init 0 = .ok (.aload_n 0, 1) := by decide +kernel
theorem dX3_init_1 : decode cX3_init 1 = .ok (.invokespecial 3, 3) := by decide +kernel
theorem dX3_init_4 : decode cX3_init 4 = .ok (.aload_n 0, 1) := by decide +kernel
theorem dX3_init_5 : decode cX3_init 5 = .ok (.bipush 20, 2) := by decide +kernel
theorem dX3_init_7 : decode cX3_init 7 = .ok (.newarray .int, 2) := by decide +kernel
theorem dX3_init_9 : decode cX3_init 9 = .ok (.putfield 9, 3) := by decide +kernel
theorem dX3_init_12 : decode cX3_init 12 = .ok (.aload_n 0, 1) := by decide +kernel
theorem dX3_init_13 : decode cX3_init 13 = .ok (.bipush 20, 2) := by decide +kernel
theorem dX3_init_15 : decode cX3_init 15 = .ok (.newarray .int, 2) := by decide +kernel
theorem dX3_init_17 : decode cX3_init 17 = .ok (.putfield 15, 3) := by decide +kernel
theorem dX3_init_20 : decode cX3_init 20 = .ok (.aload_n 0, 1) := by decide +kernel
theorem dX3_init_21 : decode cX3_init 21 = .ok (.bipush 20, 2) := by decide +kernel
theorem dX3_init_23 : decode cX3_init 23 = .ok (.newarray .int, 2) := by decide +kernel
theorem dX3_init_25 : decode cX3_init 25 = .ok (.putfield 18, 3) := by decide +kernel
theorem dX3_init_28 : decode cX3_init 28 = .ok (.aload_n 0, 1) := by decide +kernel
theorem dX3_init_29 : decode cX3_init 29 = .ok (.iconst 0, 1) := by decide +kernel
theorem dX3_init_30 : decode cX3_init 30 = .ok (.putfield 21, 3) := by decide +kernel
theorem dX3_init_33 : decode cX3_init 33 = .ok (.return_, 1) := by decide +kernel
theorem dX3_copyFrom_0 : decode cX3_copyFrom 0 = .ok (.aload_n 1, 1) := by decide +kernel
theorem dX3_copyFrom_1 : decode cX3_copyFrom 1 = .ok (.getfield 9, 3) := by decide +kernel
theorem dX3_copyFrom_4 : decode cX3_copyFrom 4 = .ok (.iconst 0, 1) := by decide +kernel
theorem dX3_copyFrom_5 : decode cX3_copyFrom 5 = .ok (.aload_n 0, 1) := by decide +kernel
theorem dX3_copyFrom_6 : decode cX3_copyFrom 6 = .ok (.getfield 9, 3) := by decide +kernel
theorem dX3_copyFrom_9 : decode cX3_copyFrom 9 = .ok (.iconst 0, 1) := by decide +kernel
theorem dX3_copyFrom_10 : decode cX3_copyFrom 10 = .ok (.bipush 20, 2) := by decide +kernel
theorem dX3_copyFrom_12 : decode cX3_copyFrom 12 = .ok (.invokestatic 25, 3) := by decide +kernel
theorem dX3_copyFrom_15 : decode cX3_copyFrom 15 = .ok (.aload_n 1, 1) := by decide +kernel
theorem dX3_copyFrom_16 : decode cX3_copyFrom 16 = .ok (.getfield 15, 3) := by decide +kernel
theorem dX3_copyFrom_19 : decode cX3_copyFrom 19 = .ok (.iconst 0, 1) := by decide +kernel
theorem dX3_copyFrom_20 : decode cX3_copyFrom 20 = .ok (.aload_n 0, 1) := by decide +kernel
theorem dX3_copyFrom_21 : decode cX3_copyFrom 21 = .ok (.getfield 15, 3) := by decide +kernel
theorem dX3_copyFrom_24 : decode cX3_copyFrom 24 = .ok (.iconst 0, 1) := by decide +kernel
theorem dX3_copyFrom_25 : decode cX3_copyFrom 25 = .ok (.bipush 20, 2) := by decide +kernel
theorem dX3_copyFrom_27 : decode cX3_copyFrom 27 = .ok (.invokestatic 25, 3) := by decide +kernel
theorem dX3_copyFrom_30 : decode cX3_copyFrom 30 = .ok (.aload_n 1, 1) := by decide +kernel
theorem dX3_copyFrom_31 : decode cX3_copyFrom 31 = .ok (.getfield 18, 3) := by decide +kernel
theorem dX3_copyFrom_34 : decode cX3_copyFrom 34 = .ok (.iconst 0, 1) := by decide +kernel
theorem dX3_copyFrom_35 : decode cX3_copyFrom 35 = .ok (.aload_n 0, 1) := by decide +kernel
theorem dX3_copyFrom_36 : decode cX3_copyFrom 36 = .ok (.getfield 18, 3) := by decide +kernel
theorem dX3_copyFrom_39 : decode cX3_copyFrom 39 = .ok (.iconst 0, 1) := by decide +kernel
theorem dX3_copyFrom_40 : decode cX3_copyFrom 40 = .ok (.bipush 20, 2) := by decide +kernel
theorem dX3_copyFrom_42 : decode cX3_copyFrom 42 = .ok (.invokestatic 25, 3) := by decide +kernel
theorem dX3_copyFrom_45 : decode cX3_copyFrom 45 = .ok (.aload_n 0, 1) := by decide +kernel
theorem dX3_copyFrom_46 : decode cX3_copyFrom 46 = .ok (.aload_n 1, 1) := by decide +kernel
theorem dX3_copyFrom_47 : decode cX3_copyFrom 47 = .ok (.getfield 21, 3) := by decide +kernel
theorem dX3_copyFrom_50 : decode cX3_copyFrom 50 = .ok (.putfield 21, 3) := by decide +kernel
theorem dX3_copyFrom_53 : decode cX3_copyFrom 53 = .ok (.return_, 1) := by decide +kernel
set_option maxRecDepth 20000 in
theorem ggX3_write_X3_placeOf : GoodIn wsX3_write wsX3_placeOf := goodIn_r _ [9, 1, 2, 3, 18, 19, 20, 21] (by decide +kernel) (by decide +kernel)
set_option maxRecDepth 20000 in
theorem gX3_write_X3_placeOf : GoodIn wsX3_write (wsV RX3 31 RX3 yX3_placeOf wsX3_placeOf) := goodIn_app (goodIn_of _ (by decide +kernel)) ggX3_write_X3_placeOf
set_option maxRecDepth 20000 in
theorem ggX3_write_X3_newPlace : GoodIn wsX3_write wsX3_newPlace := goodIn_r _ [13, 1, 2, 14, 15, 16, 17, 3, 4, 18, 19, 20, 21] (by decide +kernel) (by decide +kernel)
set_option maxRecDepth 20000 in
theorem gX3_write_X3_newPlace : GoodIn wsX3_write (wsV RX3 35 RX3 yX3_newPlace wsX3_newPlace) := goodIn_app (goodIn_of _ (by decide +kernel)) ggX3_write_X3_newPlace
theorem dX3_write_0 : decode cX3_write 0 = .ok (.aload_n 0, 1) := by decide +kernel
theorem dX3_write_1 : decode cX3_write 1 = .ok (.iload_n 1, 1) := by decide +kernel
theorem dX3_write_2 : decode cX3_write 2 = .ok (.iload_n 2, 1) := by decide +kernel
theorem dX3_write_3 : decode cX3_write 3 = .ok (.invokevirtual 31, 3) := by decide +kernel
theorem dX3_write_6 : decode cX3_write 6 = .ok (.istore 4, 2) := by decide +kernel
theorem dX3_write_8 : decode cX3_write 8 = .ok (.iload 4, 2) := by decide +kernel
theorem dX3_write_10 : decode cX3_write 10 = .ok (.aload_n 0, 1) := by decide +kernel
theorem dX3_write_11 : decode cX3_write 11 = .ok (.getfield 21, 3) := by decide +kernel
theorem dX3_write_14 : decode cX3_write 14 = .ok (.if_icmp .ne 9, 3) := by decide +kernel
theorem dX3_write_17 : decode cX3_write 17 = .ok (.aload_n 0, 1) := by decide +kernel
theorem dX3_write_18 : decode cX3_write 18 = .ok (.invokevirtual 35, 3) := by decide +kernel
theorem dX3_write_21 : decode cX3_write 21 = .ok (.istore 4, 2) := by decide +kernel
theorem dX3_write_23 : decode cX3_write 23 = .ok (.aload_n 0, 1) := by decide +kernel
theorem dX3_write_24 : decode cX3_write 24 = .ok (.getfield 9, 3) := by decide +kernel
theorem dX3_write_27 : decode cX3_write 27 = .ok (.iload 4, 2) := by decide +kernel
theorem dX3_write_29 : decode cX3_write 29 = .ok (.iload_n 1, 1) := by decide +kernel
theorem dX3_write_30 : decode cX3_write 30 = .ok (.iastore, 1) := by decide +kernel
theorem dX3_write_31 : decode cX3_write 31 = .ok (.aload_n 0, 1) := by decide +kernel
theorem dX3_write_32 : decode cX3_write 32 = .ok (.getfield 15, 3) := by decide +kernel
theorem dX3_write_35 : decode cX3_write 35 = .ok (.iload 4, 2) := by decide +kernel
theorem dX3_write_37 : decode cX3_write 37 = .ok (.iload_n 2, 1) := by decide +kernel
theorem dX3_write_38 : decode cX3_write 38 = .ok (.iastore, 1) := by decide +kernel
theorem dX3_write_39 : decode cX3_write 39 = .ok (.aload_n 0, 1) := by decide +kernel
theorem dX3_write_40 : decode cX3_write 40 = .ok (.getfield 18, 3) := by decide +kernel
theorem dX3_write_43 : decode cX3_write 43 = .ok (.iload 4, 2) := by decide +kernel
theorem dX3_write_45 : decode cX3_write 45 = .ok (.iload_n 3, 1) := by decide +kernel
theorem dX3_write_46 : decode cX3_write 46 = .ok (.iastore, 1) := by decide +kernel
theorem dX3_write_47 : decode cX3_write 47 = .ok (.return_, 1) := by decide +kernel
theorem dX3_placeOf_0 : decode cX3_placeOf 0 = .ok (.iconst 0, 1) := by decide +kernel
theorem dX3_placeOf_1 : decode cX3_placeOf 1 = .ok (.istore_n 3, 1) := by decide +kernel
theorem dX3_placeOf_2 : decode cX3_placeOf 2 = .ok (.iload_n 3, 1) := by decide +kernel
theorem dX3_placeOf_3 : decode cX3_placeOf 3 = .ok (.aload_n 0, 1) := by decide +kernel
theorem dX3_placeOf_4 : decode cX3_placeOf 4 = .ok (.getfield 21, 3) := by decide +kernel
theorem dX3_placeOf_7 : decode cX3_placeOf 7 = .ok (.if_icmp .ge 31, 3) := by decide +kernel
theorem dX3_placeOf_10 : decode cX3_placeOf 10 = .ok (.aload_n 0, 1) := by decide +kernel
theorem dX3_placeOf_11 : decode cX3_placeOf 11 = .ok (.getfield 9, 3) := by decide +kernel
theorem dX3_placeOf_14 : decode cX3_placeOf 14 = .ok (.iload_n 3, 1) := by decide +kernel
theorem dX3_placeOf_15 : decode cX3_placeOf 15 = .ok (.iaload, 1) := by decide +kernel
theorem dX3_placeOf_16 : decode cX3_placeOf 16 = .ok (.iload_n 1, 1) := by decide +kernel
theorem dX3_placeOf_17 : decode cX3_placeOf 17 = .ok (.if_icmp .ne 15, 3) := by decide +kernel
theorem dX3_placeOf_20 : decode cX3_placeOf 20 = .ok (.aload_n 0, 1) := by decide +kernel
theorem dX3_placeOf_21 : decode cX3_placeOf 21 = .ok (.getfield 15, 3) := by decide +kernel
theorem dX3_placeOf_24 : decode cX3_placeOf 24 = .ok (.iload_n 3, 1) := by decide +kernel
theorem dX3_placeOf_25 : decode cX3_placeOf 25 = .ok (.iaload, 1) := by decide +kernel
theorem dX3_placeOf_26 : decode cX3_placeOf 26 = .ok (.iload_n 2, 1) := by decide +kernel
theorem dX3_placeOf_27 : decode cX3_placeOf 27 = .ok (.if_icmp .ne 5, 3) := by decide +kernel
theorem dX3_placeOf_30 : decode cX3_placeOf 30 = .ok (.iload_n 3, 1) := by decide +kernel
theorem dX3_placeOf_31 : decode cX3_placeOf 31 = .ok (.ireturn, 1) := by decide +kernel
theorem dX3_placeOf_32 : decode cX3_placeOf 32 = .ok (.iinc 3 1, 3) := by decide +kernel
theorem dX3_placeOf_35 : decode cX3_placeOf 35 = .ok (.goto (-33), 3) := by decide +kernel
theorem dX3_placeOf_38 : decode cX3_placeOf 38 = .ok (.aload_n 0, 1) := by decide +kernel
theorem dX3_placeOf_39 : decode cX3_placeOf 39 = .ok (.getfield 21, 3) := by decide +kernel
theorem dX3_placeOf_42 : decode cX3_placeOf 42 = .ok (.ireturn, 1) := by decide +kernel
theorem dX3_newPlace_0 : decode cX3_newPlace 0 = .ok (.aload_n 0, 1) := by decide +kernel
theorem dX3_newPlace_1 : decode cX3_newPlace 1 = .ok (.getfield 21, 3) := by decide +kernel
theorem dX3_newPlace_4 : decode cX3_newPlace 4 = .ok (.bipush 20, 2) := by decide +kernel
theorem dX3_newPlace_6 : decode cX3_newPlace 6 = .ok (.if_icmp .ge 20, 3) := by decide +kernel
theorem dX3_newPlace_9 : decode cX3_newPlace 9 = .ok (.aload_n 0, 1) := by decide +kernel
theorem dX3_newPlace_10 : decode cX3_newPlace 10 = .ok (.dup, 1) := by decide +kernel
theorem dX3_newPlace_11 : decode cX3_newPlace 11 = .ok (.getfield 21, 3) := by decide +kernel
theorem dX3_newPlace_14 : decode cX3_newPlace 14 = .ok (.iconst 1, 1) := by decide +kernel
theorem dX3_newPlace_15 : decode cX3_newPlace 15 = .ok (.iadd, 1) := by decide +kernel
theorem dX3_newPlace_16 : decode cX3_newPlace 16 = .ok (.putfield 21, 3) := by decide +kernel
theorem dX3_newPlace_19 : decode cX3_newPlace 19 = .ok (.aload_n 0, 1) := by decide +kernel
theorem dX3_newPlace_20 : decode cX3_newPlace 20 = .ok (.getfield 21, 3) := by decide +kernel
theorem dX3_newPlace_23 : decode cX3_newPlace 23 = .ok (.iconst 1, 1) := by decide +kernel
theorem dX3_newPlace_24 : decode cX3_newPlace 24 = .ok (.isub, 1) := by decide +kernel
theorem dX3_newPlace_25 : decode cX3_newPlace 25 = .ok (.ireturn, 1) := by decide +kernel
theorem dX3_newPlace_26 : decode cX3_newPlace 26 = .ok (.aload_n 0, 1) := by decide +kernel
theorem dX3_newPlace_27 : decode cX3_newPlace 27 = .ok (.getfield 9, 3) := by decide +kernel
theorem dX3_newPlace_30 : decode cX3_newPlace 30 = .ok (.iconst 1, 1) := by decide +kernel
theorem dX3_newPlace_31 : decode cX3_newPlace 31 = .ok (.aload_n 0, 1) := by decide +kernel
theorem dX3_newPlace_32 : decode cX3_newPlace 32 = .ok (.getfield 9, 3) := by decide +kernel
theorem dX3_newPlace_35 : decode cX3_newPlace 35 = .ok (.iconst 0, 1) := by decide +kernel
theorem dX3_newPlace_36 : decode cX3_newPlace 36 = .ok (.bipush 19, 2) := by decide +kernel
theorem dX3_newPlace_38 : decode cX3_newPlace 38 = .ok (.invokestatic 25, 3) := by decide +kernel
theorem dX3_newPlace_41 : decode cX3_newPlace 41 = .ok (.aload_n 0, 1) := by decide +kernel
theorem dX3_newPlace_42 : decode cX3_newPlace 42 = .ok (.getfield 15, 3) := by decide +kernel
theorem dX3_newPlace_45 : decode cX3_newPlace 45 = .ok (.iconst 1, 1) := by decide +kernel
theorem dX3_newPlace_46 : decode cX3_newPlace 46 = .ok (.aload_n 0, 1) := by decide +kernel
theorem dX3_newPlace_47 : decode cX3_newPlace 47 = .ok (.getfield 15, 3) := by decide +kernel
theorem dX3_newPlace_50 : decode cX3_newPlace 50 = .ok (.iconst 0, 1) := by decide +kernel
theorem dX3_newPlace_51 : decode cX3_newPlace 51 = .ok (.bipush 19, 2) := by decide +kernel
theorem dX3_newPlace_53 : decode cX3_newPlace 53 = .ok (.invokestatic 25, 3) := by decide +kernel
theorem dX3_newPlace_56 : decode cX3_newPlace 56 = .ok (.aload_n 0, 1) := by decide +kernel
theorem dX3_newPlace_57 : decode cX3_newPlace 57 = .ok (.getfield 18, 3) := by decide +kernel
theorem dX3_newPlace_60 : decode cX3_newPlace 60 = .ok (.iconst 1, 1) := by decide +kernel
theorem dX3_newPlace_61 : decode cX3_newPlace 61 = .ok (.aload_n 0, 1) := by decide +kernel
theorem dX3_newPlace_62 : decode cX3_newPlace 62 = .ok (.getfield 18, 3) := by decide +kernel
theorem dX3_newPlace_65 : decode cX3_newPlace 65 = .ok (.iconst 0, 1) := by decide +kernel
theorem dX3_newPlace_66 : decode cX3_newPlace 66 = .ok (.bipush 19, 2) := by decide +kernel
theorem dX3_newPlace_68 : decode cX3_newPlace 68 = .ok (.invokestatic 25, 3) := by decide +kernel
theorem dX3_newPlace_71 : decode cX3_newPlace 71 = .ok (.bipush 19, 2) := by decide +kernel
theorem dX3_newPlace_73 : decode cX3_newPlace 73 = .ok (.ireturn, 1) := by decide +kernel
theorem dX3_tell_0 : decode cX3_tell 0 = .ok (.iload_n 1, 1) := by decide +kernel
theorem dX3_tell_1 : decode cX3_tell 1 = .ok (.aload_n 0, 1) := by decide +kernel
theorem dX3_tell_2 : decode cX3_tell 2 = .ok (.getfield 21, 3) := by decide +kernel
theorem dX3_tell_5 : decode cX3_tell 5 = .ok (.if_icmp .lt 7, 3) := by decide +kernel
theorem dX3_tell_8 : decode cX3_tell 8 = .ok (.sipush (-1000), 3) := by decide +kernel
theorem dX3_tell_11 : decode cX3_tell 11 = .ok (.ireturn, 1) := by decide +kernel
theorem dX3_tell_12 : decode cX3_tell 12 = .ok (.iload_n 2, 1) := by decide +kernel
theorem dX3_tell_13 : decode cX3_tell 13 = .ok (.lookupswitch 41 #[(0, 27), (1, 34)], 27) := by decide +kernel
theorem dX3_tell_40 : decode cX3_tell 40 = .ok (.aload_n 0, 1) := by decide +kernel
theorem dX3_tell_41 : decode cX3_tell 41 = .ok (.getfield 9, 3) := by decide +kernel
theorem dX3_tell_44 : decode cX3_tell 44 = .ok (.iload_n 1, 1) := by decide +kernel
theorem dX3_tell_45 : decode cX3_tell 45 = .ok (.iaload, 1) := by decide +kernel
theorem dX3_tell_46 : decode cX3_tell 46 = .ok (.ireturn, 1) := by decide +kernel
theorem dX3_tell_47 : decode cX3_tell 47 = .ok (.aload_n 0, 1) := by decide +kernel
theorem dX3_tell_48 : decode cX3_tell 48 = .ok (.getfield 15, 3) := by decide +kernel
theorem dX3_tell_51 : decode cX3_tell 51 = .ok (.iload_n 1, 1) := by decide +kernel
theorem dX3_tell_52 : decode cX3_tell 52 = .ok (.iaload, 1) := by decide +kernel
theorem dX3_tell_53 : decode cX3_tell 53 = .ok (.ireturn, 1) := by decide +kernel
theorem dX3_tell_54 : decode cX3_tell 54 = .ok (.aload_n 0, 1) := by decide +kernel
theorem dX3_tell_55 : decode cX3_tell 55 = .ok (.getfield 18, 3) := by decide +kernel
theorem dX3_tell_58 : decode cX3_tell 58 = .ok (.iload_n 1, 1) := by decide +kernel
theorem dX3_tell_59 : decode cX3_tell 59 = .ok (.iaload, 1) := by decide +kernel
theorem dX3_tell_60 : decode cX3_tell 60 = .ok (.ireturn, 1) := by decide +kernel
set_option maxRecDepth 20000 in
theorem ggX4_init_X0_init : GoodIn wsX4_init wsX0_init := goodIn_r _ [25, 26, 2, 3, 12, 27, 28, 29, 30, 31, 32, 33, 34, 35, 36, 37, 38, 39, 40, 41, 6, 42, 43, 44, 45, 46, 47, 48, 49, 50, 51, 52, 53, 54, 55, 56, 57, 58, 59, 60, 61, 69, 70, 71, 72, 73, 74, 75] (by decide +kernel) (by decide +kernel)
set_option maxRecDepth 20000 in
theorem gX4_init_X0_init : GoodIn wsX4_init (wsX0_init) := ggX4_init_X0_init
set_option maxRecDepth 20000 in
theorem ggX4_init_X3_init : GoodIn wsX4_init wsX3_init := goodIn_r _ [63, 64, 2, 3, 12, 65, 66, 67, 68, 88, 89, 90, 91] (by decide +kernel) (by decide +kernel)
set_option maxRecDepth 20000 in
theorem gX4_init_X3_init_n20 : GoodIn wsX4_init (wsX3_init) := ggX4_init_X3_init
theorem dX4_init_0 : decode cX4_init 0 = .ok (.aload_n 0, 1) := by decide +kernel
theorem dX4_init_1 : decode cX4_init 1 = .ok (.invokespecial 3, 3) := by decide +kernel
theorem dX4_init_4 : decode cX4_init 4 = .ok (.aload_n 0, 1) := by decide +kernel
theorem dX4_init_5 : decode cX4_init 5 = .ok (.new 9, 3) := by decide +kernel
theorem dX4_init_8 : decode cX4_init 8 = .ok (.dup, 1) := by decide +kernel
theorem dX4_init_9 : decode cX4_init 9 = .ok (.invokespecial 11, 3) := by decide +kernel
theorem dX4_init_12 : decode cX4_init 12 = .ok (.putfield 12, 3) := by decide +kernel
theorem dX4_init_15 : decode cX4_init 15 = .ok (.aload_n 0, 1) := by decide +kernel
theorem dX4_init_16 : decode cX4_init 16 = .ok (.new 18, 3) := by decide +kernel
theorem dX4_init_19 : decode cX4_init 19 = .ok (.dup, 1) := by decide +kernel
theorem dX4_init_20 : decode cX4_init 20 = .ok (.invokespecial 20, 3) := by decide +kernel
theorem dX4_init_23 : decode cX4_init 23 = .ok (.putfield 21, 3) := by decide +kernel
theorem dX4_init_26 : decode cX4_init 26 = .ok (.aload_n 0, 1) := by decide +kernel
theorem dX4_init_27 : decode cX4_init 27 = .ok (.bipush 8, 2) := by decide +kernel
theorem dX4_init_29 : decode cX4_init 29 = .ok (.newarray .int, 2) := by decide +kernel
theorem dX4_init_31 : decode cX4_init 31 = .ok (.putfield 25, 3) := by decide +kernel
theorem dX4_init_34 : decode cX4_init 34 = .ok (.aload_n 0, 1) := by decide +kernel
theorem dX4_init_35 : decode cX4_init 35 = .ok (.bipush 8, 2) := by decide +kernel
theorem dX4_init_37 : decode cX4_init 37 = .ok (.newarray .int, 2) := by decide +kernel
theorem dX4_init_39 : decode cX4_init 39 = .ok (.putfield 29, 3) := by decide +kernel
theorem dX4_init_42 : decode cX4_init 42 = .ok (.aload_n 0, 1) := by decide +kernel
theorem dX4_init_43 : decode cX4_init 43 = .ok (.iconst 0, 1) := by decide +kernel
theorem dX4_init_44 : decode cX4_init 44 = .ok (.putfield 32, 3) := by decide +kernel
theorem dX4_init_47 : decode cX4_init 47 = .ok (.aload_n 0, 1) := by decide +kernel
theorem dX4_init_48 : decode cX4_init 48 = .ok (.iconst 0, 1) := by decide +kernel
theorem dX4_init_49 : decode cX4_init 49 = .ok (.putfield 36, 3) := by decide +kernel
theorem dX4_init_52 : decode cX4_init 52 = .ok (.aload_n 0, 1) := by decide +kernel
theorem dX4_init_53 : decode cX4_init 53 = .ok (.iconst 0, 1) := by decide +kernel
theorem dX4_init_54 : decode cX4_init 54 = .ok (.putfield 39, 3) := by decide +kernel
theorem dX4_init_57 : decode cX4_init 57 = .ok (.aload_n 0, 1) := by decide +kernel
theorem dX4_init_58 : decode cX4_init 58 = .ok (.iconst 0, 1) := by decide +kernel
theorem dX4_init_59 : decode cX4_init 59 = .ok (.putfield 42, 3) := by decide +kernel
theorem dX4_init_62 : decode cX4_init 62 = .ok (.aload_n 0, 1) := by decide +kernel
theorem dX4_init_63 : decode cX4_init 63 = .ok (.iconst 0, 1) := by decide +kernel
theorem dX4_init_64 : decode cX4_init 64 = .ok (.putfield 45, 3) := by decide +kernel
theorem dX4_init_67 : decode cX4_init 67 = .ok (.aload_n 0, 1) := by decide +kernel
theorem dX4_init_68 : decode cX4_init 68 = .ok (.iconst 0, 1) := by decide +kernel
theorem dX4_init_69 : decode cX4_init 69 = .ok (.putfield 48, 3) := by decide +kernel
theorem dX4_init_72 : decode cX4_init 72 = .ok (.aload_n 0, 1) := by decide +kernel
theorem dX4_init_73 : decode cX4_init 73 = .ok (.sipush (-1000), 3) := by decide +kernel
theorem dX4_init_76 : decode cX4_init 76 = .ok (.putfield 51, 3) := by decide +kernel
theorem dX4_init_79 : decode cX4_init 79 = .ok (.aload_n 0, 1) := by decide +kernel
theorem dX4_init_80 : decode cX4_init 80 = .ok (.sipush (-1000), 3) := by decide +kernel
theorem dX4_init_83 : decode cX4_init 83 = .ok (.putfield 54, 3) := by decide +kernel
theorem dX4_init_86 : decode cX4_init 86 = .ok (.return_, 1) := by decide +kernel
set_option maxRecDepth 20000 in
theorem ggX4_copyFrom_X0_copyFrom : GoodIn wsX4_copyFrom wsX0_copyFrom := goodIn_r _ [21, 22, 23, 5, 6, 7, 24, 25, 26, 27, 28, 29, 52, 53, 54, 55, 56, 57, 58] (by decide +kernel) (by decide +kernel)
set_option maxRecDepth 20000 in
theorem gX4_copyFrom_X0_copyFrom : GoodIn wsX4_copyFrom (wsV RX4 57 RX0 yX0_copyFrom wsX0_copyFrom) := goodIn_app (goodIn_of _ (by decide +kernel)) ggX4_copyFrom_X0_copyFrom
set_option maxRecDepth 20000 in
theorem ggX4_copyFrom_X3_copyFrom : GoodIn wsX4_copyFrom wsX3_copyFrom := goodIn_r _ [34, 35, 36, 5, 6, 7, 37, 38, 39, 59, 60, 61, 62] (by decide +kernel) (by decide +kernel)
set_option maxRecDepth 20000 in
theorem gX4_copyFrom_X3_copyFrom : GoodIn wsX4_copyFrom (wsV RX4 61 RX3 yX3_copyFrom wsX3_copyFrom) := goodIn_app (goodIn_of _ (by decide +kernel)) ggX4_copyFrom_X3_copyFrom
theorem dX4_copyFrom_0 : decode cX4_copyFrom 0 = .ok (.aload_n 0, 1) := by decide +kernel
theorem dX4_copyFrom_1 : decode cX4_copyFrom 1 = .ok (.getfield 12, 3) := by decide +kernel
theorem dX4_copyFrom_4 : decode cX4_copyFrom 4 = .ok (.aload_n 1, 1) := by decide +kernel
theorem dX4_copyFrom_5 : decode cX4_copyFrom 5 = .ok (.getfield 12, 3) := by decide +kernel
theorem dX4_copyFrom_8 : decode cX4_copyFrom 8 = .ok (.invokevirtual 57, 3) := by decide +kernel
theorem dX4_copyFrom_11 : decode cX4_copyFrom 11 = .ok (.aload_n 0, 1) := by decide +kernel
theorem dX4_copyFrom_12 : decode cX4_copyFrom 12 = .ok (.getfield 21, 3) := by decide +kernel
theorem dX4_copyFrom_15 : decode cX4_copyFrom 15 = .ok (.aload_n 1, 1) := by decide +kernel
theorem dX4_copyFrom_16 : decode cX4_copyFrom 16 = .ok (.getfield 21, 3) := by decide +kernel
theorem dX4_copyFrom_19 : decode cX4_copyFrom 19 = .ok (.invokevirtual 61, 3) := by decide +kernel
theorem dX4_copyFrom_22 : decode cX4_copyFrom 22 = .ok (.aload_n 1, 1) := by decide +kernel
theorem dX4_copyFrom_23 : decode cX4_copyFrom 23 = .ok (.getfield 25, 3) := by decide +kernel
theorem dX4_copyFrom_26 : decode cX4_copyFrom 26 = .ok (.iconst 0, 1) := by decide +kernel
theorem dX4_copyFrom_27 : decode cX4_copyFrom 27 = .ok (.aload_n 0, 1) := by decide +kernel
theorem dX4_copyFrom_28 : decode cX4_copyFrom 28 = .ok (.getfield 25, 3) := by decide +kernel
theorem dX4_copyFrom_31 : decode cX4_copyFrom 31 = .ok (.iconst 0, 1) := by decide +kernel
theorem dX4_copyFrom_32 : decode cX4_copyFrom 32 = .ok (.bipush 8, 2) := by decide +kernel
theorem dX4_copyFrom_34 : decode cX4_copyFrom 34 = .ok (.invokestatic 64, 3) := by decide +kernel
theorem dX4_copyFrom_37 : decode cX4_copyFrom 37 = .ok (.aload_n 1, 1) := by decide +kernel
theorem dX4_copyFrom_38 : decode cX4_copyFrom 38 = .ok (.getfield 29, 3) := by decide +kernel
theorem dX4_copyFrom_41 : decode cX4_copyFrom 41 = .ok (.iconst 0, 1) := by decide +kernel
theorem dX4_copyFrom_42 : decode cX4_copyFrom 42 = .ok (.aload_n 0, 1) := by decide +kernel
theorem dX4_copyFrom_43 : decode cX4_copyFrom 43 = .ok (.getfield 29, 3) := by decide +kernel
theorem dX4_copyFrom_46 : decode cX4_copyFrom 46 = .ok (.iconst 0, 1) := by decide +kernel
theorem dX4_copyFrom_47 : decode cX4_copyFrom 47 = .ok (.bipush 8, 2) := by decide +kernel
theorem dX4_copyFrom_49 : decode cX4_copyFrom 49 = .ok (.invokestatic 64, 3) := by decide +kernel
theorem dX4_copyFrom_52 : decode cX4_copyFrom 52 = .ok (.aload_n 0, 1) := by decide +kernel
theorem dX4_copyFrom_53 : decode cX4_copyFrom 53 = .ok (.aload_n 1, 1) := by decide +kernel
theorem dX4_copyFrom_54 : decode cX4_copyFrom 54 = .ok (.getfield 32, 3) := by decide +kernel
theorem dX4_copyFrom_57 : decode cX4_copyFrom 57 = .ok (.putfield 32, 3) := by decide +kernel
theorem dX4_copyFrom_60 : decode cX4_copyFrom 60 = .ok (.aload_n 0, 1) := by decide +kernel
theorem dX4_copyFrom_61 : decode cX4_copyFrom 61 = .ok (.aload_n 1, 1) := by decide +kernel
theorem dX4_copyFrom_62 : decode cX4_copyFrom 62 = .ok (.getfield 36, 3) := by decide +kernel
theorem dX4_copyFrom_65 : decode cX4_copyFrom 65 = .ok (.putfield 36, 3) := by decide +kernel
theorem dX4_copyFrom_68 : decode cX4_copyFrom 68 = .ok (.aload_n 0, 1) := by decide +kernel
theorem dX4_copyFrom_69 : decode cX4_copyFrom 69 = .ok (.aload_n 1, 1) := by decide +kernel
theorem dX4_copyFrom_70 : decode cX4_copyFrom 70 = .ok (.getfield 39, 3) := by decide +kernel
theorem dX4_copyFrom_73 : decode cX4_copyFrom 73 = .ok (.putfield 39, 3) := by decide +kernel
theorem dX4_copyFrom_76 : decode cX4_copyFrom 76 = .ok (.aload_n 0, 1) := by decide +kernel
theorem dX4_copyFrom_77 : decode cX4_copyFrom 77 = .ok (.aload_n 1, 1) := by decide +kernel
theorem dX4_copyFrom_78 : decode cX4_copyFrom 78 = .ok (.getfield 42, 3) := by decide +kernel
theorem dX4_copyFrom_81 : decode cX4_copyFrom 81 = .ok (.putfield 42, 3) := by decide +kernel
theorem dX4_copyFrom_84 : decode cX4_copyFrom 84 = .ok (.aload_n 0, 1) := by decide +kernel
theorem dX4_copyFrom_85 : decode cX4_copyFrom 85 = .ok (.aload_n 1, 1) := by decide +kernel
theorem dX4_copyFrom_86 : decode cX4_copyFrom 86 = .ok (.getfield 45, 3) := by decide +kernel
theorem dX4_copyFrom_89 : decode cX4_copyFrom 89 = .ok (.putfield 45, 3) := by decide +kernel
theorem dX4_copyFrom_92 : decode cX4_copyFrom 92 = .ok (.aload_n 0, 1) := by decide +kernel
theorem dX4_copyFrom_93 : decode cX4_copyFrom 93 = .ok (.aload_n 1, 1) := by decide +kernel
theorem dX4_copyFrom_94 : decode cX4_copyFrom 94 = .ok (.getfield 48, 3) := by decide +kernel
theorem dX4_copyFrom_97 : decode cX4_copyFrom 97 = .ok (.putfield 48, 3) := by decide +kernel
theorem dX4_copyFrom_100 : decode cX4_copyFrom 100 = .ok (.aload_n 0, 1) := by decide +kernel
theorem dX4_copyFrom_101 : decode cX4_copyFrom 101 = .ok (.aload_n 1, 1) := by decide +kernel
theorem dX4_copyFrom_102 : decode cX4_copyFrom 102 = .ok (.getfield 51, 3) := by decide +kernel
theorem dX4_copyFrom_105 : decode cX4_copyFrom 105 = .ok (.putfield 51, 3) := by decide +kernel
theorem dX4_copyFrom_108 : decode cX4_copyFrom 108 = .ok (.aload_n 0, 1) := by decide +kernel
theorem dX4_copyFrom_109 : decode cX4_copyFrom 109 = .ok (.aload_n 1, 1) := by decide +kernel
theorem dX4_copyFrom_110 : decode cX4_copyFrom 110 = .ok (.getfield 54, 3) := by decide +kernel
theorem dX4_copyFrom_113 : decode cX4_copyFrom 113 = .ok (.putfield 54, 3) := by decide +kernel
theorem dX4_copyFrom_116 : decode cX4_copyFrom 116 = .ok (.return_, 1) := by decide +kernel
theorem dX4_tells_0 : decode cX4_tells 0 = .ok (.aload_n 0, 1) := by decide +kernel
theorem dX4_tells_1 : decode cX4_tells 1 = .ok (.getfield 12, 3) := by decide +kernel
theorem dX4_tells_4 : decode cX4_tells 4 = .ok (.getfield 70, 3) := by decide +kernel
theorem dX4_tells_7 : decode cX4_tells 7 = .ok (.iload_n 1, 1) := by decide +kernel
theorem dX4_tells_8 : decode cX4_tells 8 = .ok (.iaload, 1) := by decide +kernel
theorem dX4_tells_9 : decode cX4_tells 9 = .ok (.aload_n 0, 1) := by decide +kernel
theorem dX4_tells_10 : decode cX4_tells 10 = .ok (.getfield 25, 3) := by decide +kernel
theorem dX4_tells_13 : decode cX4_tells 13 = .ok (.iload_n 1, 1) := by decide +kernel
theorem dX4_tells_14 : decode cX4_tells 14 = .ok (.iaload, 1) := by decide +kernel
theorem dX4_tells_15 : decode cX4_tells 15 = .ok (.aload_n 0, 1) := by decide +kernel
theorem dX4_tells_16 : decode cX4_tells 16 = .ok (.getfield 32, 3) := by decide +kernel
theorem dX4_tells_19 : decode cX4_tells 19 = .ok (.aload_n 0, 1) := by decide +kernel
theorem dX4_tells_20 : decode cX4_tells 20 = .ok (.getfield 29, 3) := by decide +kernel
theorem dX4_tells_23 : decode cX4_tells 23 = .ok (.iload_n 1, 1) := by decide +kernel
theorem dX4_tells_24 : decode cX4_tells 24 = .ok (.iaload, 1) := by decide +kernel
theorem dX4_tells_25 : decode cX4_tells 25 = .ok (.isub, 1) := by decide +kernel
theorem dX4_tells_26 : decode cX4_tells 26 = .ok (.imul, 1) := by decide +kernel
theorem dX4_tells_27 : decode cX4_tells 27 = .ok (.iconst 4, 1) := by decide +kernel
theorem dX4_tells_28 : decode cX4_tells 28 = .ok (.idiv, 1) := by decide +kernel
theorem dX4_tells_29 : decode cX4_tells 29 = .ok (.iadd, 1) := by decide +kernel
theorem dX4_tells_30 : decode cX4_tells 30 = .ok (.ireturn, 1) := by decide +kernel
set_option maxRecDepth 20000 in
theorem ggX4_writeNote_X4_tells : GoodIn wsX4_writeNote wsX4_tells := goodIn_r _ [7, 8, 9, 10, 2, 11, 33, 34, 35, 36, 37, 38, 39, 40, 41, 42, 43, 44, 45, 46, 47, 48, 49, 50, 51] (by decide +kernel) (by decide +kernel)
set_option maxRecDepth 20000 in
theorem gX4_writeNote_X4_tells : GoodIn wsX4_writeNote (wsV RX4 73 RX4 yX4_tells wsX4_tells) := goodIn_app (goodIn_of _ (by decide +kernel)) ggX4_writeNote_X4_tells
set_option maxRecDepth 20000 in
theorem ggX4_writeNote_X3_write : GoodIn wsX4_writeNote wsX3_write := goodIn_r _ [16, 17, 18, 19, 20, 21, 22, 23, 15, 24, 25, 26, 27, 28, 29, 30, 31, 32, 52, 53, 54, 55] (by decide +kernel) (by decide +kernel)
set_option maxRecDepth 20000 in
theorem gX4_writeNote_X3_write : GoodIn wsX4_writeNote (wsV RX4 77 RX3 yX3_write wsX3_write) := goodIn_app (goodIn_of _ (by decide +kernel)) ggX4_writeNote_X3_write
theorem dX4_writeNote_0 : decode cX4_writeNote 0 = .ok (.aload_n 0, 1) := by decide +kernel
theorem dX4_writeNote_1 : decode cX4_writeNote 1 = .ok (.getfield 21, 3) := by decide +kernel
theorem dX4_writeNote_4 : decode cX4_writeNote 4 = .ok (.iload_n 1, 1) := by decide +kernel
theorem dX4_writeNote_5 : decode cX4_writeNote 5 = .ok (.aload_n 0, 1) := by decide +kernel
theorem dX4_writeNote_6 : decode cX4_writeNote 6 = .ok (.getfield 32, 3) := by decide +kernel
theorem dX4_writeNote_9 : decode cX4_writeNote 9 = .ok (.aload_n 0, 1) := by decide +kernel
theorem dX4_writeNote_10 : decode cX4_writeNote 10 = .ok (.iload_n 1, 1) := by decide +kernel
theorem dX4_writeNote_11 : decode cX4_writeNote 11 = .ok (.invokevirtual 73, 3) := by decide +kernel
theorem dX4_writeNote_14 : decode cX4_writeNote 14 = .ok (.invokevirtual 77, 3) := by decide +kernel
theorem dX4_writeNote_17 : decode cX4_writeNote 17 = .ok (.return_, 1) := by decide +kernel
set_option maxRecDepth 20000 in
theorem ggX4_passHours_X0_leakHour : GoodIn wsX4_passHours wsX0_leakHour := goodIn_r _ [9, 10, 11, 12, 13, 14, 15, 16, 17, 18, 8, 19, 20, 21, 22, 23, 24, 25, 26, 27, 28, 29, 30, 31, 32, 33, 34, 35, 36, 37, 38, 64, 65, 66, 67, 68, 69, 70] (by decide +kernel) (by decide +kernel)
set_option maxRecDepth 20000 in
theorem gX4_passHours_X0_leakHour : GoodIn wsX4_passHours (wsV RX4 81 RX0 yX0_leakHour wsX0_leakHour) := goodIn_app (goodIn_of _ (by decide +kernel)) ggX4_passHours_X0_leakHour
set_option maxRecDepth 20000 in
theorem ggX4_passHours_X0_snapHour : GoodIn wsX4_passHours wsX0_snapHour := goodIn_r _ [42, 43, 37, 44, 45, 46, 8, 47, 20, 38, 48, 49, 50, 51, 21, 22, 23, 24, 12, 13, 14, 15, 25, 26, 27, 28, 29, 30, 31, 10, 32, 16, 17, 18, 19, 33, 34, 35, 36, 64, 65, 66, 67, 68, 69, 70] (by decide +kernel) (by decide +kernel)
set_option maxRecDepth 20000 in
theorem gX4_passHours_X0_snapHour : GoodIn wsX4_passHours (wsV RX4 85 RX0 yX0_snapHour wsX0_snapHour) := goodIn_app (goodIn_of _ (by decide +kernel)) ggX4_passHours_X0_snapHour
theorem dX4_passHours_0 : decode cX4_passHours 0 = .ok (.iconst 0, 1) := by decide +kernel
theorem dX4_passHours_1 : decode cX4_passHours 1 = .ok (.istore_n 2, 1) := by decide +kernel
theorem dX4_passHours_2 : decode cX4_passHours 2 = .ok (.iload_n 2, 1) := by decide +kernel
theorem dX4_passHours_3 : decode cX4_passHours 3 = .ok (.iload_n 1, 1) := by decide +kernel
theorem dX4_passHours_4 : decode cX4_passHours 4 = .ok (.if_icmp .ge 51, 3) := by decide +kernel
theorem dX4_passHours_7 : decode cX4_passHours 7 = .ok (.aload_n 0, 1) := by decide +kernel
theorem dX4_passHours_8 : decode cX4_passHours 8 = .ok (.dup, 1) := by decide +kernel
theorem dX4_passHours_9 : decode cX4_passHours 9 = .ok (.getfield 32, 3) := by decide +kernel
theorem dX4_passHours_12 : decode cX4_passHours 12 = .ok (.iconst 1, 1) := by decide +kernel
theorem dX4_passHours_13 : decode cX4_passHours 13 = .ok (.iadd, 1) := by decide +kernel
theorem dX4_passHours_14 : decode cX4_passHours 14 = .ok (.putfield 32, 3) := by decide +kernel
theorem dX4_passHours_17 : decode cX4_passHours 17 = .ok (.aload_n 0, 1) := by decide +kernel
theorem dX4_passHours_18 : decode cX4_passHours 18 = .ok (.dup, 1) := by decide +kernel
theorem dX4_passHours_19 : decode cX4_passHours 19 = .ok (.getfield 39, 3) := by decide +kernel
theorem dX4_passHours_22 : decode cX4_passHours 22 = .ok (.aload_n 0, 1) := by decide +kernel
theorem dX4_passHours_23 : decode cX4_passHours 23 = .ok (.getfield 12, 3) := by decide +kernel
theorem dX4_passHours_26 : decode cX4_passHours 26 = .ok (.invokevirtual 81, 3) := by decide +kernel
theorem dX4_passHours_29 : decode cX4_passHours 29 = .ok (.iadd, 1) := by decide +kernel
theorem dX4_passHours_30 : decode cX4_passHours 30 = .ok (.putfield 39, 3) := by decide +kernel
theorem dX4_passHours_33 : decode cX4_passHours 33 = .ok (.aload_n 0, 1) := by decide +kernel
theorem dX4_passHours_34 : decode cX4_passHours 34 = .ok (.dup, 1) := by decide +kernel
theorem dX4_passHours_35 : decode cX4_passHours 35 = .ok (.getfield 45, 3) := by decide +kernel
theorem dX4_passHours_38 : decode cX4_passHours 38 = .ok (.aload_n 0, 1) := by decide +kernel
theorem dX4_passHours_39 : decode cX4_passHours 39 = .ok (.getfield 12, 3) := by decide +kernel
theorem dX4_passHours_42 : decode cX4_passHours 42 = .ok (.invokevirtual 85, 3) := by decide +kernel
theorem dX4_passHours_45 : decode cX4_passHours 45 = .ok (.iadd, 1) := by decide +kernel
theorem dX4_passHours_46 : decode cX4_passHours 46 = .ok (.putfield 45, 3) := by decide +kernel
theorem dX4_passHours_49 : decode cX4_passHours 49 = .ok (.iinc 2 1, 3) := by decide +kernel
theorem dX4_passHours_52 : decode cX4_passHours 52 = .ok (.goto (-50), 3) := by decide +kernel
theorem dX4_passHours_55 : decode cX4_passHours 55 = .ok (.return_, 1) := by decide +kernel
set_option maxRecDepth 20000 in
theorem ggX4_carryOut_X0_mendHeights : GoodIn wsX4_carryOut wsX0_mendHeights := goodIn_r _ [13, 14, 15, 16, 17, 12, 18, 19, 20, 21, 22, 23, 24, 25, 26, 27, 28, 29, 30, 31, 32, 33, 34, 35, 36, 37, 50, 51, 52, 53, 54, 55, 56] (by decide +kernel) (by decide +kernel)
set_option maxRecDepth 20000 in
theorem gX4_carryOut_X0_mendHeights : GoodIn wsX4_carryOut (wsV RX4 101 RX0 yX0_mendHeights wsX0_mendHeights) := goodIn_app (goodIn_of _ (by decide +kernel)) ggX4_carryOut_X0_mendHeights
theorem dX4_carryOut_0 : decode cX4_carryOut 0 = .ok (.iload_n 1, 1) := by decide +kernel
theorem dX4_carryOut_1 : decode cX4_carryOut 1 = .ok (.tableswitch 152 0 4 #[35, 61, 87, 113, 129], 35) := by decide +kernel
theorem dX4_carryOut_36 : decode cX4_carryOut 36 = .ok (.aload_n 0, 1) := by decide +kernel
theorem dX4_carryOut_37 : decode cX4_carryOut 37 = .ok (.getfield 12, 3) := by decide +kernel
theorem dX4_carryOut_40 : decode cX4_carryOut 40 = .ok (.getfield 88, 3) := by decide +kernel
theorem dX4_carryOut_43 : decode cX4_carryOut 43 = .ok (.iload_n 2, 1) := by decide +kernel
theorem dX4_carryOut_44 : decode cX4_carryOut 44 = .ok (.dup2, 1) := by decide +kernel
theorem dX4_carryOut_45 : decode cX4_carryOut 45 = .ok (.iaload, 1) := by decide +kernel
theorem dX4_carryOut_46 : decode cX4_carryOut 46 = .ok (.iload_n 3, 1) := by decide +kernel
theorem dX4_carryOut_47 : decode cX4_carryOut 47 = .ok (.iadd, 1) := by decide +kernel
theorem dX4_carryOut_48 : decode cX4_carryOut 48 = .ok (.iastore, 1) := by decide +kernel
theorem dX4_carryOut_49 : decode cX4_carryOut 49 = .ok (.aload_n 0, 1) := by decide +kernel
theorem dX4_carryOut_50 : decode cX4_carryOut 50 = .ok (.dup, 1) := by decide +kernel
theorem dX4_carryOut_51 : decode cX4_carryOut 51 = .ok (.getfield 36, 3) := by decide +kernel
theorem dX4_carryOut_54 : decode cX4_carryOut 54 = .ok (.iload_n 3, 1) := by decide +kernel
theorem dX4_carryOut_55 : decode cX4_carryOut 55 = .ok (.iadd, 1) := by decide +kernel
theorem dX4_carryOut_56 : decode cX4_carryOut 56 = .ok (.putfield 36, 3) := by decide +kernel
theorem dX4_carryOut_59 : decode cX4_carryOut 59 = .ok (.goto 104, 3) := by decide +kernel
theorem dX4_carryOut_62 : decode cX4_carryOut 62 = .ok (.aload_n 0, 1) := by decide +kernel
theorem dX4_carryOut_63 : decode cX4_carryOut 63 = .ok (.getfield 12, 3) := by decide +kernel
theorem dX4_carryOut_66 : decode cX4_carryOut 66 = .ok (.getfield 88, 3) := by decide +kernel
theorem dX4_carryOut_69 : decode cX4_carryOut 69 = .ok (.iload_n 2, 1) := by decide +kernel
theorem dX4_carryOut_70 : decode cX4_carryOut 70 = .ok (.dup2, 1) := by decide +kernel
theorem dX4_carryOut_71 : decode cX4_carryOut 71 = .ok (.iaload, 1) := by decide +kernel
theorem dX4_carryOut_72 : decode cX4_carryOut 72 = .ok (.iload_n 3, 1) := by decide +kernel
theorem dX4_carryOut_73 : decode cX4_carryOut 73 = .ok (.isub, 1) := by decide +kernel
theorem dX4_carryOut_74 : decode cX4_carryOut 74 = .ok (.iastore, 1) := by decide +kernel
theorem dX4_carryOut_75 : decode cX4_carryOut 75 = .ok (.aload_n 0, 1) := by decide +kernel
theorem dX4_carryOut_76 : decode cX4_carryOut 76 = .ok (.dup, 1) := by decide +kernel
theorem dX4_carryOut_77 : decode cX4_carryOut 77 = .ok (.getfield 42, 3) := by decide +kernel
theorem dX4_carryOut_80 : decode cX4_carryOut 80 = .ok (.iload_n 3, 1) := by decide +kernel
theorem dX4_carryOut_81 : decode cX4_carryOut 81 = .ok (.iadd, 1) := by decide +kernel
theorem dX4_carryOut_82 : decode cX4_carryOut 82 = .ok (.putfield 42, 3) := by decide +kernel
theorem dX4_carryOut_85 : decode cX4_carryOut 85 = .ok (.goto 78, 3) := by decide +kernel
theorem dX4_carryOut_88 : decode cX4_carryOut 88 = .ok (.aload_n 0, 1) := by decide +kernel
theorem dX4_carryOut_89 : decode cX4_carryOut 89 = .ok (.getfield 12, 3) := by decide +kernel
theorem dX4_carryOut_92 : decode cX4_carryOut 92 = .ok (.getfield 91, 3) := by decide +kernel
theorem dX4_carryOut_95 : decode cX4_carryOut 95 = .ok (.iload_n 2, 1) := by decide +kernel
theorem dX4_carryOut_96 : decode cX4_carryOut 96 = .ok (.dup2, 1) := by decide +kernel
theorem dX4_carryOut_97 : decode cX4_carryOut 97 = .ok (.iaload, 1) := by decide +kernel
theorem dX4_carryOut_98 : decode cX4_carryOut 98 = .ok (.iconst 1, 1) := by decide +kernel
theorem dX4_carryOut_99 : decode cX4_carryOut 99 = .ok (.isub, 1) := by decide +kernel
theorem dX4_carryOut_100 : decode cX4_carryOut 100 = .ok (.iastore, 1) := by decide +kernel
theorem dX4_carryOut_101 : decode cX4_carryOut 101 = .ok (.aload_n 0, 1) := by decide +kernel
theorem dX4_carryOut_102 : decode cX4_carryOut 102 = .ok (.dup, 1) := by decide +kernel
theorem dX4_carryOut_103 : decode cX4_carryOut 103 = .ok (.getfield 48, 3) := by decide +kernel
theorem dX4_carryOut_106 : decode cX4_carryOut 106 = .ok (.iconst 1, 1) := by decide +kernel
theorem dX4_carryOut_107 : decode cX4_carryOut 107 = .ok (.iadd, 1) := by decide +kernel
theorem dX4_carryOut_108 : decode cX4_carryOut 108 = .ok (.putfield 48, 3) := by decide +kernel
theorem dX4_carryOut_111 : decode cX4_carryOut 111 = .ok (.goto 52, 3) := by decide +kernel
theorem dX4_carryOut_114 : decode cX4_carryOut 114 = .ok (.aload_n 0, 1) := by decide +kernel
theorem dX4_carryOut_115 : decode cX4_carryOut 115 = .ok (.getfield 12, 3) := by decide +kernel
theorem dX4_carryOut_118 : decode cX4_carryOut 118 = .ok (.getfield 91, 3) := by decide +kernel
theorem dX4_carryOut_121 : decode cX4_carryOut 121 = .ok (.iload_n 2, 1) := by decide +kernel
theorem dX4_carryOut_122 : decode cX4_carryOut 122 = .ok (.dup2, 1) := by decide +kernel
theorem dX4_carryOut_123 : decode cX4_carryOut 123 = .ok (.iaload, 1) := by decide +kernel
theorem dX4_carryOut_124 : decode cX4_carryOut 124 = .ok (.iconst 1, 1) := by decide +kernel
theorem dX4_carryOut_125 : decode cX4_carryOut 125 = .ok (.iadd, 1) := by decide +kernel
theorem dX4_carryOut_126 : decode cX4_carryOut 126 = .ok (.iastore, 1) := by decide +kernel
theorem dX4_carryOut_127 : decode cX4_carryOut 127 = .ok (.goto 36, 3) := by decide +kernel
theorem dX4_carryOut_130 : decode cX4_carryOut 130 = .ok (.aload_n 0, 1) := by decide +kernel
theorem dX4_carryOut_131 : decode cX4_carryOut 131 = .ok (.getfield 12, 3) := by decide +kernel
theorem dX4_carryOut_134 : decode cX4_carryOut 134 = .ok (.getfield 94, 3) := by decide +kernel
theorem dX4_carryOut_137 : decode cX4_carryOut 137 = .ok (.iload_n 2, 1) := by decide +kernel
theorem dX4_carryOut_138 : decode cX4_carryOut 138 = .ok (.iconst 1, 1) := by decide +kernel
theorem dX4_carryOut_139 : decode cX4_carryOut 139 = .ok (.bastore, 1) := by decide +kernel
theorem dX4_carryOut_140 : decode cX4_carryOut 140 = .ok (.aload_n 0, 1) := by decide +kernel
theorem dX4_carryOut_141 : decode cX4_carryOut 141 = .ok (.getfield 12, 3) := by decide +kernel
theorem dX4_carryOut_144 : decode cX4_carryOut 144 = .ok (.getfield 98, 3) := by decide +kernel
theorem dX4_carryOut_147 : decode cX4_carryOut 147 = .ok (.iload_n 2, 1) := by decide +kernel
theorem dX4_carryOut_148 : decode cX4_carryOut 148 = .ok (.iload_n 3, 1) := by decide +kernel
theorem dX4_carryOut_149 : decode cX4_carryOut 149 = .ok (.iastore, 1) := by decide +kernel
theorem dX4_carryOut_150 : decode cX4_carryOut 150 = .ok (.goto 13, 3) := by decide +kernel
theorem dX4_carryOut_153 : decode cX4_carryOut 153 = .ok (.aload_n 0, 1) := by decide +kernel
theorem dX4_carryOut_154 : decode cX4_carryOut 154 = .ok (.getfield 12, 3) := by decide +kernel
theorem dX4_carryOut_157 : decode cX4_carryOut 157 = .ok (.getfield 94, 3) := by decide +kernel
theorem dX4_carryOut_160 : decode cX4_carryOut 160 = .ok (.iload_n 2, 1) := by decide +kernel
theorem dX4_carryOut_161 : decode cX4_carryOut 161 = .ok (.iconst 0, 1) := by decide +kernel
theorem dX4_carryOut_162 : decode cX4_carryOut 162 = .ok (.bastore, 1) := by decide +kernel
theorem dX4_carryOut_163 : decode cX4_carryOut 163 = .ok (.aload_n 0, 1) := by decide +kernel
theorem dX4_carryOut_164 : decode cX4_carryOut 164 = .ok (.getfield 12, 3) := by decide +kernel
theorem dX4_carryOut_167 : decode cX4_carryOut 167 = .ok (.invokevirtual 101, 3) := by decide +kernel
theorem dX4_carryOut_170 : decode cX4_carryOut 170 = .ok (.return_, 1) := by decide +kernel
theorem dX5_init_0 : decode cX5_init 0 = .ok (.aload_n 0, 1) := by decide +kernel
theorem dX5_init_1 : decode cX5_init 1 = .ok (.invokespecial 3, 3) := by decide +kernel
theorem dX5_init_4 : decode cX5_init 4 = .ok (.aload_n 0, 1) := by decide +kernel
theorem dX5_init_5 : decode cX5_init 5 = .ok (.bipush 60, 2) := by decide +kernel
theorem dX5_init_7 : decode cX5_init 7 = .ok (.newarray .int, 2) := by decide +kernel
theorem dX5_init_9 : decode cX5_init 9 = .ok (.putfield 9, 3) := by decide +kernel
theorem dX5_init_12 : decode cX5_init 12 = .ok (.aload_n 0, 1) := by decide +kernel
theorem dX5_init_13 : decode cX5_init 13 = .ok (.iconst 0, 1) := by decide +kernel
theorem dX5_init_14 : decode cX5_init 14 = .ok (.putfield 15, 3) := by decide +kernel
theorem dX5_init_17 : decode cX5_init 17 = .ok (.return_, 1) := by decide +kernel
set_option maxRecDepth 20000 in
theorem ggX6_init_X4_init : GoodIn wsX6_init wsX4_init := goodIn_r _ [27, 28, 2, 3, 29, 19, 20, 30, 31, 32, 33, 34, 35, 36, 37, 38, 39, 40, 41, 42, 43, 44, 45, 46, 47, 48, 49, 50, 51, 52, 53, 54, 55, 56, 57, 58, 59, 60, 61, 62, 63, 64, 65, 66, 67, 68, 69, 70, 71, 72, 73, 74, 75, 76, 77, 78, 79, 80, 81, 82, 83, 84, 85, 86, 87, 88, 89, 90, 91, 136, 137, 138, 139, 140, 141, 142, 113, 114, 115, 116, 117, 118, 119, 120, 121, 122, 123, 124, 146, 147, 148, 149] (by decide +kernel) (by decide +kernel)
set_option maxRecDepth 20000 in
theorem gX6_init_X4_init_n11 : GoodIn wsX6_init (wsX4_init) := ggX6_init_X4_init
set_option maxRecDepth 20000 in
theorem ggX6_init_X2_init : GoodIn wsX6_init wsX2_init := goodIn_r _ [94, 95, 2, 3, 96, 97, 98, 5, 6, 26, 27, 28, 29, 19, 20, 30, 31, 32, 33, 34, 35, 36, 37, 38, 39, 40, 41, 42, 43, 44, 45, 46, 47, 48, 49, 50, 51, 52, 53, 54, 55, 56, 57, 58, 59, 60, 61, 62, 63, 64, 65, 66, 67, 68, 69, 70, 71, 72, 73, 74, 75, 76, 77, 78, 79, 80, 81, 82, 83, 84, 85, 86, 87, 88, 89, 90, 91, 132, 133, 113, 114, 115, 116, 117, 118, 119, 120, 121, 122, 123, 124, 136, 137, 138, 139, 140, 141, 142, 146, 147, 148, 149] (by decide +kernel) (by decide +kernel)
set_option maxRecDepth 20000 in
theorem gX6_init_X2_init : GoodIn wsX6_init (wsX2_init) := ggX6_init_X2_init
set_option maxRecDepth 20000 in
theorem ggX6_init_X5_init : GoodIn wsX6_init wsX5_init := goodIn_r _ [100, 101, 2, 3, 35, 102, 103, 134, 135] (by decide +kernel) (by decide +kernel)
set_option maxRecDepth 20000 in
theorem gX6_init_X5_init_n32 : GoodIn wsX6_init (wsX5_init) := ggX6_init_X5_init
set_option maxRecDepth 20000 in
theorem ggX6_init_X0_init : GoodIn wsX6_init wsX0_init := goodIn_r _ [48, 49, 2, 3, 35, 50, 51, 52, 53, 54, 55, 56, 57, 58, 59, 60, 61, 62, 63, 64, 20, 65, 66, 67, 68, 69, 70, 71, 72, 73, 74, 75, 76, 77, 78, 79, 80, 81, 82, 83, 84, 136, 137, 138, 139, 140, 141, 142] (by decide +kernel) (by decide +kernel)
set_option maxRecDepth 20000 in
theorem gX6_init_X0_init : GoodIn wsX6_init (wsX0_init) := ggX6_init_X0_init
set_option maxRecDepth 20000 in
theorem ggX6_init_X1_init : GoodIn wsX6_init wsX1_init := goodIn_r _ [106, 107, 2, 3, 108, 19, 20, 109, 35, 110, 111, 112, 47, 48, 49, 50, 51, 52, 53, 54, 55, 56, 57, 58, 59, 60, 61, 62, 63, 64, 65, 66, 67, 68, 69, 70, 71, 72, 73, 74, 75, 76, 77, 78, 79, 80, 81, 82, 83, 84, 136, 137, 138, 139, 140, 141, 142, 143, 144, 145] (by decide +kernel) (by decide +kernel)
set_option maxRecDepth 20000 in
theorem gX6_init_X1_init_n46 : GoodIn wsX6_init (wsX1_init) := ggX6_init_X1_init
theorem dX6_init_0 : decode cX6_init 0 = .ok (.aload_n 0, 1) := by decide +kernel
theorem dX6_init_1 : decode cX6_init 1 = .ok (.invokespecial 3, 3) := by decide +kernel
theorem dX6_init_4 : decode cX6_init 4 = .ok (.aload_n 0, 1) := by decide +kernel
theorem dX6_init_5 : decode cX6_init 5 = .ok (.new 9, 3) := by decide +kernel
theorem dX6_init_8 : decode cX6_init 8 = .ok (.dup, 1) := by decide +kernel
theorem dX6_init_9 : decode cX6_init 9 = .ok (.invokespecial 11, 3) := by decide +kernel
theorem dX6_init_12 : decode cX6_init 12 = .ok (.putfield 12, 3) := by decide +kernel
theorem dX6_init_15 : decode cX6_init 15 = .ok (.aload_n 0, 1) := by decide +kernel
theorem dX6_init_16 : decode cX6_init 16 = .ok (.new 9, 3) := by decide +kernel
theorem dX6_init_19 : decode cX6_init 19 = .ok (.dup, 1) := by decide +kernel
theorem dX6_init_20 : decode cX6_init 20 = .ok (.invokespecial 11, 3) := by decide +kernel
theorem dX6_init_23 : decode cX6_init 23 = .ok (.putfield 16, 3) := by decide +kernel
theorem dX6_init_26 : decode cX6_init 26 = .ok (.aload_n 0, 1) := by decide +kernel
theorem dX6_init_27 : decode cX6_init 27 = .ok (.iconst 0, 1) := by decide +kernel
theorem dX6_init_28 : decode cX6_init 28 = .ok (.putfield 19, 3) := by decide +kernel
theorem dX6_init_31 : decode cX6_init 31 = .ok (.aload_n 0, 1) := by decide +kernel
theorem dX6_init_32 : decode cX6_init 32 = .ok (.new 23, 3) := by decide +kernel
theorem dX6_init_35 : decode cX6_init 35 = .ok (.dup, 1) := by decide +kernel
theorem dX6_init_36 : decode cX6_init 36 = .ok (.invokespecial 25, 3) := by decide +kernel
theorem dX6_init_39 : decode cX6_init 39 = .ok (.putfield 26, 3) := by decide +kernel
theorem dX6_init_42 : decode cX6_init 42 = .ok (.aload_n 0, 1) := by decide +kernel
theorem dX6_init_43 : decode cX6_init 43 = .ok (.new 30, 3) := by decide +kernel
theorem dX6_init_46 : decode cX6_init 46 = .ok (.dup, 1) := by decide +kernel
theorem dX6_init_47 : decode cX6_init 47 = .ok (.invokespecial 32, 3) := by decide +kernel
theorem dX6_init_50 : decode cX6_init 50 = .ok (.putfield 33, 3) := by decide +kernel
theorem dX6_init_53 : decode cX6_init 53 = .ok (.aload_n 0, 1) := by decide +kernel
theorem dX6_init_54 : decode cX6_init 54 = .ok (.new 37, 3) := by decide +kernel
theorem dX6_init_57 : decode cX6_init 57 = .ok (.dup, 1) := by decide +kernel
theorem dX6_init_58 : decode cX6_init 58 = .ok (.invokespecial 39, 3) := by decide +kernel
theorem dX6_init_61 : decode cX6_init 61 = .ok (.putfield 40, 3) := by decide +kernel
theorem dX6_init_64 : decode cX6_init 64 = .ok (.aload_n 0, 1) := by decide +kernel
theorem dX6_init_65 : decode cX6_init 65 = .ok (.new 44, 3) := by decide +kernel
theorem dX6_init_68 : decode cX6_init 68 = .ok (.dup, 1) := by decide +kernel
theorem dX6_init_69 : decode cX6_init 69 = .ok (.invokespecial 46, 3) := by decide +kernel
theorem dX6_init_72 : decode cX6_init 72 = .ok (.putfield 47, 3) := by decide +kernel
theorem dX6_init_75 : decode cX6_init 75 = .ok (.return_, 1) := by decide +kernel
set_option maxRecDepth 20000 in
theorem ggX6_fill_X6_checkBalloon : GoodIn wsX6_fill wsX6_checkBalloon := goodIn_ca (goodIn_r _ [7, 8, 9] (by decide +kernel) (by decide +kernel)) (goodIn_sub (fun _ h => List.mem_cons_of_mem _ (List.mem_append_left _ (List.mem_append_left _ (List.mem_append_right _ h)))) (by decide +kernel))
set_option maxRecDepth 20000 in
theorem gX6_fill_X6_checkBalloon : GoodIn wsX6_fill (va_wsS RX6 51 yX6_checkBalloon wsX6_checkBalloon) := goodIn_app (goodIn_of _ (by decide +kernel)) ggX6_fill_X6_checkBalloon
set_option maxRecDepth 20000 in
theorem ggX6_fill_X6_checkRange : GoodIn wsX6_fill wsX6_checkRange := goodIn_ca (goodIn_r _ [12, 13, 14] (by decide +kernel) (by decide +kernel)) (goodIn_sub (fun _ h => List.mem_cons_of_mem _ (List.mem_append_left _ (List.mem_append_right _ h))) (by decide +kernel))
set_option maxRecDepth 20000 in
theorem gX6_fill_X6_checkRange : GoodIn wsX6_fill (va_wsS RX6 55 yX6_checkRange wsX6_checkRange) := goodIn_app (goodIn_of _ (by decide +kernel)) ggX6_fill_X6_checkRange
set_option maxRecDepth 20000 in
theorem ggX6_fill_X6_perform : GoodIn wsX6_fill wsX6_perform := goodIn_ca (goodIn_r _ [18, 19, 20, 1, 2, 21, 22, 23, 24, 25, 26, 27, 28, 29, 30, 31, 32, 33, 34, 35, 36, 37, 38, 39, 40, 41, 42, 43, 44, 45, 46, 47, 48, 49, 50, 51, 52, 53, 54, 55, 56, 57, 58, 59, 60, 61, 62, 63, 64, 65, 66, 67, 68, 69, 70, 71, 72, 73, 74, 75, 76, 77, 78, 79, 80, 81, 82, 83, 84, 85, 86, 87, 88, 89, 90, 91, 92, 93, 94, 95, 96, 97, 98, 99, 100, 101, 102, 103, 104, 105, 106, 107, 108, 109, 110, 111, 112, 113, 114, 115, 116, 117, 118, 119, 120, 121, 122, 123, 124, 125, 126, 127, 128, 129, 130, 131, 132, 133, 134, 135, 136, 137, 138, 139, 140, 141, 142, 143, 144, 145, 146, 147, 148, 149, 150] (by decide +kernel) (by decide +kernel)) (goodIn_sub (fun _ h => List.mem_cons_of_mem _ (List.mem_append_right _ h)) (by decide +kernel))
set_option maxRecDepth 20000 in
theorem gX6_fill_X6_perform : GoodIn wsX6_fill (wsV RX6 59 RX6 yX6_perform wsX6_perform) := goodIn_app (goodIn_of _ (by decide +kernel)) ggX6_fill_X6_perform
theorem dX6_fill_0 : decode cX6_fill 0 = .ok (.iload_n 1, 1) := by decide +kernel
theorem dX6_fill_1 : decode cX6_fill 1 = .ok (.invokestatic 51, 3) := by decide +kernel
theorem dX6_fill_4 : decode cX6_fill 4 = .ok (.iload_n 2, 1) := by decide +kernel
theorem dX6_fill_5 : decode cX6_fill 5 = .ok (.iconst 1, 1) := by decide +kernel
theorem dX6_fill_6 : decode cX6_fill 6 = .ok (.bipush 99, 2) := by decide +kernel
theorem dX6_fill_8 : decode cX6_fill 8 = .ok (.invokestatic 55, 3) := by decide +kernel
theorem dX6_fill_11 : decode cX6_fill 11 = .ok (.aload_n 0, 1) := by decide +kernel
theorem dX6_fill_12 : decode cX6_fill 12 = .ok (.iconst 0, 1) := by decide +kernel
theorem dX6_fill_13 : decode cX6_fill 13 = .ok (.iload_n 1, 1) := by decide +kernel
theorem dX6_fill_14 : decode cX6_fill 14 = .ok (.iload_n 2, 1) := by decide +kernel
theorem dX6_fill_15 : decode cX6_fill 15 = .ok (.invokevirtual 59, 3) := by decide +kernel
theorem dX6_fill_18 : decode cX6_fill 18 = .ok (.aload_n 0, 1) := by decide +kernel
theorem dX6_fill_19 : decode cX6_fill 19 = .ok (.getfield 12, 3) := by decide +kernel
theorem dX6_fill_22 : decode cX6_fill 22 = .ok (.getfield 62, 3) := by decide +kernel
theorem dX6_fill_25 : decode cX6_fill 25 = .ok (.getfield 65, 3) := by decide +kernel
theorem dX6_fill_28 : decode cX6_fill 28 = .ok (.iload_n 1, 1) := by decide +kernel
theorem dX6_fill_29 : decode cX6_fill 29 = .ok (.iaload, 1) := by decide +kernel
theorem dX6_fill_30 : decode cX6_fill 30 = .ok (.ireturn, 1) := by decide +kernel
set_option maxRecDepth 20000 in
theorem ggX6_vent_X6_checkBalloon : GoodIn wsX6_vent wsX6_checkBalloon := goodIn_ca (goodIn_r _ [7, 8, 9] (by decide +kernel) (by decide +kernel)) (goodIn_sub (fun _ h => List.mem_cons_of_mem _ (List.mem_append_left _ (List.mem_append_left _ (List.mem_append_right _ h)))) (by decide +kernel))
set_option maxRecDepth 20000 in
theorem gX6_vent_X6_checkBalloon : GoodIn wsX6_vent (va_wsS RX6 51 yX6_checkBalloon wsX6_checkBalloon) := goodIn_app (goodIn_of _ (by decide +kernel)) ggX6_vent_X6_checkBalloon
set_option maxRecDepth 20000 in
theorem ggX6_vent_X6_checkRange : GoodIn wsX6_vent wsX6_checkRange := goodIn_ca (goodIn_r _ [12, 13, 14] (by decide +kernel) (by decide +kernel)) (goodIn_sub (fun _ h => List.mem_cons_of_mem _ (List.mem_append_left _ (List.mem_append_right _ h))) (by decide +kernel))
set_option maxRecDepth 20000 in
theorem gX6_vent_X6_checkRange : GoodIn wsX6_vent (va_wsS RX6 55 yX6_checkRange wsX6_checkRange) := goodIn_app (goodIn_of _ (by decide +kernel)) ggX6_vent_X6_checkRange
set_option maxRecDepth 20000 in
theorem ggX6_vent_X6_perform : GoodIn wsX6_vent wsX6_perform := goodIn_ca (goodIn_r _ [18, 19, 20, 1, 2, 21, 22, 23, 24, 25, 26, 27, 28, 29, 30, 31, 32, 33, 34, 35, 36, 37, 38, 39, 40, 41, 42, 43, 44, 45, 46, 47, 48, 49, 50, 51, 52, 53, 54, 55, 56, 57, 58, 59, 60, 61, 62, 63, 64, 65, 66, 67, 68, 69, 70, 71, 72, 73, 74, 75, 76, 77, 78, 79, 80, 81, 82, 83, 84, 85, 86, 87, 88, 89, 90, 91, 92, 93, 94, 95, 96, 97, 98, 99, 100, 101, 102, 103, 104, 105, 106, 107, 108, 109, 110, 111, 112, 113, 114, 115, 116, 117, 118, 119, 120, 121, 122, 123, 124, 125, 126, 127, 128, 129, 130, 131, 132, 133, 134, 135, 136, 137, 138, 139, 140, 141, 142, 143, 144, 145, 146, 147, 148, 149, 150] (by decide +kernel) (by decide +kernel)) (goodIn_sub (fun _ h => List.mem_cons_of_mem _ (List.mem_append_right _ h)) (by decide +kernel))
set_option maxRecDepth 20000 in
theorem gX6_vent_X6_perform : GoodIn wsX6_vent (wsV RX6 59 RX6 yX6_perform wsX6_perform) := goodIn_app (goodIn_of _ (by decide +kernel)) ggX6_vent_X6_perform
theorem dX6_vent_0 : decode cX6_vent 0 = .ok (.iload_n 1, 1) := by decide +kernel
theorem dX6_vent_1 : decode cX6_vent 1 = .ok (.invokestatic 51, 3) := by decide +kernel
theorem dX6_vent_4 : decode cX6_vent 4 = .ok (.iload_n 2, 1) := by decide +kernel
theorem dX6_vent_5 : decode cX6_vent 5 = .ok (.iconst 1, 1) := by decide +kernel
theorem dX6_vent_6 : decode cX6_vent 6 = .ok (.bipush 99, 2) := by decide +kernel
theorem dX6_vent_8 : decode cX6_vent 8 = .ok (.invokestatic 55, 3) := by decide +kernel
theorem dX6_vent_11 : decode cX6_vent 11 = .ok (.aload_n 0, 1) := by decide +kernel
theorem dX6_vent_12 : decode cX6_vent 12 = .ok (.iconst 1, 1) := by decide +kernel
theorem dX6_vent_13 : decode cX6_vent 13 = .ok (.iload_n 1, 1) := by decide +kernel
theorem dX6_vent_14 : decode cX6_vent 14 = .ok (.iload_n 2, 1) := by decide +kernel
theorem dX6_vent_15 : decode cX6_vent 15 = .ok (.invokevirtual 59, 3) := by decide +kernel
theorem dX6_vent_18 : decode cX6_vent 18 = .ok (.aload_n 0, 1) := by decide +kernel
theorem dX6_vent_19 : decode cX6_vent 19 = .ok (.getfield 12, 3) := by decide +kernel
theorem dX6_vent_22 : decode cX6_vent 22 = .ok (.getfield 62, 3) := by decide +kernel
theorem dX6_vent_25 : decode cX6_vent 25 = .ok (.getfield 69, 3) := by decide +kernel
theorem dX6_vent_28 : decode cX6_vent 28 = .ok (.iload_n 1, 1) := by decide +kernel
theorem dX6_vent_29 : decode cX6_vent 29 = .ok (.iaload, 1) := by decide +kernel
theorem dX6_vent_30 : decode cX6_vent 30 = .ok (.ireturn, 1) := by decide +kernel
set_option maxRecDepth 20000 in
theorem ggX6_drop_X6_checkBalloon : GoodIn wsX6_drop wsX6_checkBalloon := goodIn_ca (goodIn_r _ [7, 8, 9] (by decide +kernel) (by decide +kernel)) (goodIn_sub (fun _ h => List.mem_cons_of_mem _ (List.mem_append_left _ (List.mem_append_right _ h))) (by decide +kernel))
set_option maxRecDepth 20000 in
theorem gX6_drop_X6_checkBalloon : GoodIn wsX6_drop (va_wsS RX6 51 yX6_checkBalloon wsX6_checkBalloon) := goodIn_app (goodIn_of _ (by decide +kernel)) ggX6_drop_X6_checkBalloon
set_option maxRecDepth 20000 in
theorem ggX6_drop_X6_perform : GoodIn wsX6_drop wsX6_perform := goodIn_ca (goodIn_r _ [13, 14, 15, 1, 2, 16, 17, 18, 19, 20, 21, 22, 23, 24, 25, 26, 27, 28, 29, 30, 31, 32, 33, 34, 35, 36, 37, 38, 39, 40, 41, 42, 43, 44, 45, 46, 47, 48, 49, 50, 51, 52, 53, 54, 55, 56, 57, 58, 59, 60, 61, 62, 63, 64, 65, 66, 67, 68, 69, 70, 71, 72, 73, 74, 75, 76, 77, 78, 79, 80, 81, 82, 83, 84, 85, 86, 87, 88, 89, 90, 91, 92, 93, 94, 95, 96, 97, 98, 99, 100, 101, 102, 103, 104, 105, 106, 107, 108, 109, 110, 111, 112, 113, 114, 115, 116, 117, 118, 119, 120, 121, 122, 123, 124, 125, 126, 127, 128, 129, 130, 131, 132, 133, 134, 135, 136, 137, 138, 139, 140, 141, 142, 143, 144, 145] (by decide +kernel) (by decide +kernel)) (goodIn_sub (fun _ h => List.mem_cons_of_mem _ (List.mem_append_right _ h)) (by decide +kernel))
set_option maxRecDepth 20000 in
theorem gX6_drop_X6_perform : GoodIn wsX6_drop (wsV RX6 59 RX6 yX6_perform wsX6_perform) := goodIn_app (goodIn_of _ (by decide +kernel)) ggX6_drop_X6_perform
theorem dX6_drop_0 : decode cX6_drop 0 = .ok (.iload_n 1, 1) := by decide +kernel
theorem dX6_drop_1 : decode cX6_drop 1 = .ok (.invokestatic 51, 3) := by decide +kernel
theorem dX6_drop_4 : decode cX6_drop 4 = .ok (.aload_n 0, 1) := by decide +kernel
theorem dX6_drop_5 : decode cX6_drop 5 = .ok (.iconst 2, 1) := by decide +kernel
theorem dX6_drop_6 : decode cX6_drop 6 = .ok (.iload_n 1, 1) := by decide +kernel
theorem dX6_drop_7 : decode cX6_drop 7 = .ok (.iconst 1, 1) := by decide +kernel
theorem dX6_drop_8 : decode cX6_drop 8 = .ok (.invokevirtual 59, 3) := by decide +kernel
theorem dX6_drop_11 : decode cX6_drop 11 = .ok (.aload_n 0, 1) := by decide +kernel
theorem dX6_drop_12 : decode cX6_drop 12 = .ok (.getfield 12, 3) := by decide +kernel
theorem dX6_drop_15 : decode cX6_drop 15 = .ok (.getfield 62, 3) := by decide +kernel
theorem dX6_drop_18 : decode cX6_drop 18 = .ok (.getfield 69, 3) := by decide +kernel
theorem dX6_drop_21 : decode cX6_drop 21 = .ok (.iload_n 1, 1) := by decide +kernel
theorem dX6_drop_22 : decode cX6_drop 22 = .ok (.iaload, 1) := by decide +kernel
theorem dX6_drop_23 : decode cX6_drop 23 = .ok (.ireturn, 1) := by decide +kernel
set_option maxRecDepth 20000 in
theorem ggX6_put_X6_checkBalloon : GoodIn wsX6_put wsX6_checkBalloon := goodIn_ca (goodIn_r _ [7, 8, 9] (by decide +kernel) (by decide +kernel)) (goodIn_sub (fun _ h => List.mem_cons_of_mem _ (List.mem_append_left _ (List.mem_append_right _ h))) (by decide +kernel))
set_option maxRecDepth 20000 in
theorem gX6_put_X6_checkBalloon : GoodIn wsX6_put (va_wsS RX6 51 yX6_checkBalloon wsX6_checkBalloon) := goodIn_app (goodIn_of _ (by decide +kernel)) ggX6_put_X6_checkBalloon
set_option maxRecDepth 20000 in
theorem ggX6_put_X6_perform : GoodIn wsX6_put wsX6_perform := goodIn_ca (goodIn_r _ [13, 14, 15, 1, 2, 16, 17, 18, 19, 20, 21, 22, 23, 24, 25, 26, 27, 28, 29, 30, 31, 32, 33, 34, 35, 36, 37, 38, 39, 40, 41, 42, 43, 44, 45, 46, 47, 48, 49, 50, 51, 52, 53, 54, 55, 56, 57, 58, 59, 60, 61, 62, 63, 64, 65, 66, 67, 68, 69, 70, 71, 72, 73, 74, 75, 76, 77, 78, 79, 80, 81, 82, 83, 84, 85, 86, 87, 88, 89, 90, 91, 92, 93, 94, 95, 96, 97, 98, 99, 100, 101, 102, 103, 104, 105, 106, 107, 108, 109, 110, 111, 112, 113, 114, 115, 116, 117, 118, 119, 120, 121, 122, 123, 124, 125, 126, 127, 128, 129, 130, 131, 132, 133, 134, 135, 136, 137, 138, 139, 140, 141, 142, 143, 144, 145] (by decide +kernel) (by decide +kernel)) (goodIn_sub (fun _ h => List.mem_cons_of_mem _ (List.mem_append_right _ h)) (by decide +kernel))
set_option maxRecDepth 20000 in
theorem gX6_put_X6_perform : GoodIn wsX6_put (wsV RX6 59 RX6 yX6_perform wsX6_perform) := goodIn_app (goodIn_of _ (by decide +kernel)) ggX6_put_X6_perform
theorem dX6_put_0 : decode cX6_put 0 = .ok (.iload_n 1, 1) := by decide +kernel
theorem dX6_put_1 : decode cX6_put 1 = .ok (.invokestatic 51, 3) := by decide +kernel
theorem dX6_put_4 : decode cX6_put 4 = .ok (.aload_n 0, 1) := by decide +kernel
theorem dX6_put_5 : decode cX6_put 5 = .ok (.iconst 3, 1) := by decide +kernel
theorem dX6_put_6 : decode cX6_put 6 = .ok (.iload_n 1, 1) := by decide +kernel
theorem dX6_put_7 : decode cX6_put 7 = .ok (.iconst 1, 1) := by decide +kernel
theorem dX6_put_8 : decode cX6_put 8 = .ok (.invokevirtual 59, 3) := by decide +kernel
theorem dX6_put_11 : decode cX6_put 11 = .ok (.aload_n 0, 1) := by decide +kernel
theorem dX6_put_12 : decode cX6_put 12 = .ok (.getfield 12, 3) := by decide +kernel
theorem dX6_put_15 : decode cX6_put 15 = .ok (.getfield 62, 3) := by decide +kernel
theorem dX6_put_18 : decode cX6_put 18 = .ok (.getfield 72, 3) := by decide +kernel
theorem dX6_put_21 : decode cX6_put 21 = .ok (.iload_n 1, 1) := by decide +kernel
theorem dX6_put_22 : decode cX6_put 22 = .ok (.iaload, 1) := by decide +kernel
theorem dX6_put_23 : decode cX6_put 23 = .ok (.ireturn, 1) := by decide +kernel
set_option maxRecDepth 20000 in
theorem ggX6_leak_X6_checkBalloon : GoodIn wsX6_leak wsX6_checkBalloon := goodIn_ca (goodIn_r _ [8, 9, 10] (by decide +kernel) (by decide +kernel)) (goodIn_sub (fun _ h => List.mem_cons_of_mem _ (List.mem_append_left _ (List.mem_append_right _ h))) (by decide +kernel))
set_option maxRecDepth 20000 in
theorem gX6_leak_X6_checkBalloon : GoodIn wsX6_leak (va_wsS RX6 51 yX6_checkBalloon wsX6_checkBalloon) := goodIn_app (goodIn_of _ (by decide +kernel)) ggX6_leak_X6_checkBalloon
set_option maxRecDepth 20000 in
theorem ggX6_leak_X6_checkRange : GoodIn wsX6_leak wsX6_checkRange := goodIn_ca (goodIn_r _ [13, 14, 15] (by decide +kernel) (by decide +kernel)) (goodIn_sub (fun _ h => List.mem_cons_of_mem _ (List.mem_append_right _ h)) (by decide +kernel))
set_option maxRecDepth 20000 in
theorem gX6_leak_X6_checkRange : GoodIn wsX6_leak (va_wsS RX6 55 yX6_checkRange wsX6_checkRange) := goodIn_app (goodIn_of _ (by decide +kernel)) ggX6_leak_X6_checkRange
set_option maxRecDepth 20000 in
theorem ggX6_leak_X2_save : GoodIn wsX6_leak wsX2_save := goodIn_r _ [20, 21, 22, 23, 24, 25, 19, 26, 27, 28, 29, 30, 31, 32, 33, 34, 35, 36, 37, 38, 39, 40, 41, 42, 43, 44, 45, 46, 47, 48, 49, 50, 51, 52, 53, 54, 55, 56, 57, 58, 59, 60, 61, 62, 63, 64, 65, 66, 67, 68, 69, 70, 97, 98, 78, 79, 80, 81, 82, 83, 84, 85, 86, 87, 88, 89, 90, 91, 92, 93, 94, 95, 96, 99, 100, 101, 102] (by decide +kernel) (by decide +kernel)
set_option maxRecDepth 20000 in
theorem gX6_leak_X2_save : GoodIn wsX6_leak (wsV RX6 75 RX2 yX2_save wsX2_save) := goodIn_app (goodIn_of _ (by decide +kernel)) ggX6_leak_X2_save
theorem dX6_leak_0 : decode cX6_leak 0 = .ok (.iload_n 1, 1) := by decide +kernel
theorem dX6_leak_1 : decode cX6_leak 1 = .ok (.invokestatic 51, 3) := by decide +kernel
theorem dX6_leak_4 : decode cX6_leak 4 = .ok (.iload_n 2, 1) := by decide +kernel
theorem dX6_leak_5 : decode cX6_leak 5 = .ok (.iconst 0, 1) := by decide +kernel
theorem dX6_leak_6 : decode cX6_leak 6 = .ok (.bipush 9, 2) := by decide +kernel
theorem dX6_leak_8 : decode cX6_leak 8 = .ok (.invokestatic 55, 3) := by decide +kernel
theorem dX6_leak_11 : decode cX6_leak 11 = .ok (.aload_n 0, 1) := by decide +kernel
theorem dX6_leak_12 : decode cX6_leak 12 = .ok (.getfield 26, 3) := by decide +kernel
theorem dX6_leak_15 : decode cX6_leak 15 = .ok (.aload_n 0, 1) := by decide +kernel
theorem dX6_leak_16 : decode cX6_leak 16 = .ok (.getfield 12, 3) := by decide +kernel
theorem dX6_leak_19 : decode cX6_leak 19 = .ok (.invokevirtual 75, 3) := by decide +kernel
theorem dX6_leak_22 : decode cX6_leak 22 = .ok (.aload_n 0, 1) := by decide +kernel
theorem dX6_leak_23 : decode cX6_leak 23 = .ok (.getfield 12, 3) := by decide +kernel
theorem dX6_leak_26 : decode cX6_leak 26 = .ok (.getfield 62, 3) := by decide +kernel
theorem dX6_leak_29 : decode cX6_leak 29 = .ok (.getfield 79, 3) := by decide +kernel
theorem dX6_leak_32 : decode cX6_leak 32 = .ok (.iload_n 1, 1) := by decide +kernel
theorem dX6_leak_33 : decode cX6_leak 33 = .ok (.iaload, 1) := by decide +kernel
theorem dX6_leak_34 : decode cX6_leak 34 = .ok (.istore_n 3, 1) := by decide +kernel
theorem dX6_leak_35 : decode cX6_leak 35 = .ok (.aload_n 0, 1) := by decide +kernel
theorem dX6_leak_36 : decode cX6_leak 36 = .ok (.getfield 12, 3) := by decide +kernel
theorem dX6_leak_39 : decode cX6_leak 39 = .ok (.getfield 62, 3) := by decide +kernel
theorem dX6_leak_42 : decode cX6_leak 42 = .ok (.getfield 79, 3) := by decide +kernel
theorem dX6_leak_45 : decode cX6_leak 45 = .ok (.iload_n 1, 1) := by decide +kernel
theorem dX6_leak_46 : decode cX6_leak 46 = .ok (.iload_n 2, 1) := by decide +kernel
theorem dX6_leak_47 : decode cX6_leak 47 = .ok (.iastore, 1) := by decide +kernel
theorem dX6_leak_48 : decode cX6_leak 48 = .ok (.iload_n 3, 1) := by decide +kernel
theorem dX6_leak_49 : decode cX6_leak 49 = .ok (.ireturn, 1) := by decide +kernel
set_option maxRecDepth 20000 in
theorem ggX6_tie_X6_checkRibbon : GoodIn wsX6_tie wsX6_checkRibbon := goodIn_ca (goodIn_r _ [6, 7, 8] (by decide +kernel) (by decide +kernel)) (goodIn_sub (fun _ h => List.mem_cons_of_mem _ (List.mem_append_left _ (List.mem_append_left _ (List.mem_append_right _ h)))) (by decide +kernel))
set_option maxRecDepth 20000 in
theorem gX6_tie_X6_checkRibbon : GoodIn wsX6_tie (va_wsS RX6 82 yX6_checkRibbon wsX6_checkRibbon) := goodIn_app (goodIn_of _ (by decide +kernel)) ggX6_tie_X6_checkRibbon
set_option maxRecDepth 20000 in
theorem ggX6_tie_X6_checkRange : GoodIn wsX6_tie wsX6_checkRange := goodIn_ca (goodIn_r _ [11, 12, 13] (by decide +kernel) (by decide +kernel)) (goodIn_sub (fun _ h => List.mem_cons_of_mem _ (List.mem_append_left _ (List.mem_append_right _ h))) (by decide +kernel))
set_option maxRecDepth 20000 in
theorem gX6_tie_X6_checkRange : GoodIn wsX6_tie (va_wsS RX6 55 yX6_checkRange wsX6_checkRange) := goodIn_app (goodIn_of _ (by decide +kernel)) ggX6_tie_X6_checkRange
set_option maxRecDepth 20000 in
theorem ggX6_tie_X6_perform : GoodIn wsX6_tie wsX6_perform := goodIn_ca (goodIn_r _ [17, 18, 19, 1, 2, 20, 21, 22, 23, 24, 25, 26, 27, 28, 29, 30, 31, 32, 33, 34, 35, 36, 37, 38, 39, 40, 41, 42, 43, 44, 45, 46, 47, 48, 49, 50, 51, 52, 53, 54, 55, 56, 57, 58, 59, 60, 61, 62, 63, 64, 65, 66, 67, 68, 69, 70, 71, 72, 73, 74, 75, 76, 77, 78, 79, 80, 81, 82, 83, 84, 85, 86, 87, 88, 89, 90, 91, 92, 93, 94, 95, 96, 97, 98, 99, 100, 101, 102, 103, 104, 105, 106, 107, 108, 109, 110, 111, 112, 113, 114, 115, 116, 117, 126, 127, 128, 129, 130, 131, 132, 133, 134, 135, 136, 137, 138, 139, 140, 141, 142, 143, 144, 145, 146, 147, 148, 149, 150, 151, 152, 153, 154, 155, 156, 157] (by decide +kernel) (by decide +kernel)) (goodIn_sub (fun _ h => List.mem_cons_of_mem _ (List.mem_append_right _ h)) (by decide +kernel))
set_option maxRecDepth 20000 in
theorem gX6_tie_X6_perform : GoodIn wsX6_tie (wsV RX6 59 RX6 yX6_perform wsX6_perform) := goodIn_app (goodIn_of _ (by decide +kernel)) ggX6_tie_X6_perform
set_option maxRecDepth 20000 in
theorem ggX6_tie_X0_stringSize : GoodIn wsX6_tie wsX0_stringSize := goodIn_r _ [121, 29, 122, 123, 124, 24, 125, 145, 146, 147, 148, 149, 150, 151] (by decide +kernel) (by decide +kernel)
set_option maxRecDepth 20000 in
theorem gX6_tie_X0_stringSize : GoodIn wsX6_tie (wsV RX6 85 RX0 yX0_stringSize wsX0_stringSize) := goodIn_app (goodIn_of _ (by decide +kernel)) ggX6_tie_X0_stringSize
theorem dX6_tie_0 : decode cX6_tie 0 = .ok (.iload_n 1, 1) := by decide +kernel
theorem dX6_tie_1 : decode cX6_tie 1 = .ok (.invokestatic 82, 3) := by decide +kernel
theorem dX6_tie_4 : decode cX6_tie 4 = .ok (.iload_n 2, 1) := by decide +kernel
theorem dX6_tie_5 : decode cX6_tie 5 = .ok (.iconst 0, 1) := by decide +kernel
theorem dX6_tie_6 : decode cX6_tie 6 = .ok (.sipush 300, 3) := by decide +kernel
theorem dX6_tie_9 : decode cX6_tie 9 = .ok (.invokestatic 55, 3) := by decide +kernel
theorem dX6_tie_12 : decode cX6_tie 12 = .ok (.aload_n 0, 1) := by decide +kernel
theorem dX6_tie_13 : decode cX6_tie 13 = .ok (.iconst 4, 1) := by decide +kernel
theorem dX6_tie_14 : decode cX6_tie 14 = .ok (.iload_n 1, 1) := by decide +kernel
theorem dX6_tie_15 : decode cX6_tie 15 = .ok (.iload_n 2, 1) := by decide +kernel
theorem dX6_tie_16 : decode cX6_tie 16 = .ok (.invokevirtual 59, 3) := by decide +kernel
theorem dX6_tie_19 : decode cX6_tie 19 = .ok (.aload_n 0, 1) := by decide +kernel
theorem dX6_tie_20 : decode cX6_tie 20 = .ok (.getfield 12, 3) := by decide +kernel
theorem dX6_tie_23 : decode cX6_tie 23 = .ok (.getfield 62, 3) := by decide +kernel
theorem dX6_tie_26 : decode cX6_tie 26 = .ok (.iload_n 1, 1) := by decide +kernel
theorem dX6_tie_27 : decode cX6_tie 27 = .ok (.invokevirtual 85, 3) := by decide +kernel
theorem dX6_tie_30 : decode cX6_tie 30 = .ok (.ireturn, 1) := by decide +kernel
set_option maxRecDepth 20000 in
theorem ggX6_cut_X6_checkRibbon : GoodIn wsX6_cut wsX6_checkRibbon := goodIn_ca (goodIn_r _ [6, 7, 8] (by decide +kernel) (by decide +kernel)) (goodIn_sub (fun _ h => List.mem_cons_of_mem _ (List.mem_append_left _ (List.mem_append_right _ h))) (by decide +kernel))
set_option maxRecDepth 20000 in
theorem gX6_cut_X6_checkRibbon : GoodIn wsX6_cut (va_wsS RX6 82 yX6_checkRibbon wsX6_checkRibbon) := goodIn_app (goodIn_of _ (by decide +kernel)) ggX6_cut_X6_checkRibbon
set_option maxRecDepth 20000 in
theorem ggX6_cut_X0_allHeights : GoodIn wsX6_cut wsX0_allHeights := goodIn_r _ [13, 14, 136, 137, 138, 139, 140, 141, 142] (by decide +kernel) (by decide +kernel)
set_option maxRecDepth 20000 in
theorem gX6_cut_X0_allHeights : GoodIn wsX6_cut (wsV RX6 89 RX0 yX0_allHeights wsX0_allHeights) := goodIn_app (goodIn_of _ (by decide +kernel)) ggX6_cut_X0_allHeights
set_option maxRecDepth 20000 in
theorem ggX6_cut_X6_perform : GoodIn wsX6_cut wsX6_perform := goodIn_ca (goodIn_r _ [18, 19, 20, 1, 2, 21, 22, 23, 24, 12, 25, 26, 14, 27, 28, 29, 30, 31, 32, 33, 34, 35, 36, 37, 38, 39, 40, 41, 42, 43, 44, 45, 46, 47, 48, 49, 50, 51, 52, 53, 54, 55, 56, 57, 58, 59, 60, 61, 62, 63, 64, 65, 66, 67, 68, 69, 70, 71, 72, 73, 74, 75, 76, 77, 78, 79, 80, 81, 82, 83, 84, 85, 86, 87, 88, 89, 90, 91, 92, 93, 94, 95, 96, 97, 98, 99, 100, 101, 102, 103, 104, 105, 106, 107, 108, 109, 110, 111, 112, 113, 114, 115, 116, 117, 118, 119, 120, 121, 122, 123, 124, 125, 126, 127, 128, 129, 130, 131, 132, 133, 134, 135, 136, 137, 138, 139, 140, 141, 142, 143, 144, 145, 146, 147, 148] (by decide +kernel) (by decide +kernel)) (goodIn_sub (fun _ h => List.mem_cons_of_mem _ (List.mem_append_right _ h)) (by decide +kernel))
set_option maxRecDepth 20000 in
theorem gX6_cut_X6_perform : GoodIn wsX6_cut (wsV RX6 59 RX6 yX6_perform wsX6_perform) := goodIn_app (goodIn_of _ (by decide +kernel)) ggX6_cut_X6_perform
theorem dX6_cut_0 : decode cX6_cut 0 = .ok (.iload_n 1, 1) := by decide +kernel
theorem dX6_cut_1 : decode cX6_cut 1 = .ok (.invokestatic 82, 3) := by decide +kernel
theorem dX6_cut_4 : decode cX6_cut 4 = .ok (.aload_n 0, 1) := by decide +kernel
theorem dX6_cut_5 : decode cX6_cut 5 = .ok (.getfield 12, 3) := by decide +kernel
theorem dX6_cut_8 : decode cX6_cut 8 = .ok (.getfield 62, 3) := by decide +kernel
theorem dX6_cut_11 : decode cX6_cut 11 = .ok (.invokevirtual 89, 3) := by decide +kernel
theorem dX6_cut_14 : decode cX6_cut 14 = .ok (.istore_n 2, 1) := by decide +kernel
theorem dX6_cut_15 : decode cX6_cut 15 = .ok (.aload_n 0, 1) := by decide +kernel
theorem dX6_cut_16 : decode cX6_cut 16 = .ok (.iconst 5, 1) := by decide +kernel
theorem dX6_cut_17 : decode cX6_cut 17 = .ok (.iload_n 1, 1) := by decide +kernel
theorem dX6_cut_18 : decode cX6_cut 18 = .ok (.iconst 0, 1) := by decide +kernel
theorem dX6_cut_19 : decode cX6_cut 19 = .ok (.invokevirtual 59, 3) := by decide +kernel
theorem dX6_cut_22 : decode cX6_cut 22 = .ok (.aload_n 0, 1) := by decide +kernel
theorem dX6_cut_23 : decode cX6_cut 23 = .ok (.getfield 12, 3) := by decide +kernel
theorem dX6_cut_26 : decode cX6_cut 26 = .ok (.getfield 62, 3) := by decide +kernel
theorem dX6_cut_29 : decode cX6_cut 29 = .ok (.invokevirtual 89, 3) := by decide +kernel
theorem dX6_cut_32 : decode cX6_cut 32 = .ok (.iload_n 2, 1) := by decide +kernel
theorem dX6_cut_33 : decode cX6_cut 33 = .ok (.isub, 1) := by decide +kernel
theorem dX6_cut_34 : decode cX6_cut 34 = .ok (.ireturn, 1) := by decide +kernel
set_option maxRecDepth 20000 in
theorem ggX6_bear_X6_checkRibbon : GoodIn wsX6_bear wsX6_checkRibbon := goodIn_ca (goodIn_r _ [8, 9, 10] (by decide +kernel) (by decide +kernel)) (goodIn_sub (fun _ h => List.mem_cons_of_mem _ (List.mem_append_left _ (List.mem_append_right _ h))) (by decide +kernel))
set_option maxRecDepth 20000 in
theorem gX6_bear_X6_checkRibbon : GoodIn wsX6_bear (va_wsS RX6 82 yX6_checkRibbon wsX6_checkRibbon) := goodIn_app (goodIn_of _ (by decide +kernel)) ggX6_bear_X6_checkRibbon
set_option maxRecDepth 20000 in
theorem ggX6_bear_X6_checkRange : GoodIn wsX6_bear wsX6_checkRange := goodIn_ca (goodIn_r _ [13, 14, 15] (by decide +kernel) (by decide +kernel)) (goodIn_sub (fun _ h => List.mem_cons_of_mem _ (List.mem_append_right _ h)) (by decide +kernel))
set_option maxRecDepth 20000 in
theorem gX6_bear_X6_checkRange : GoodIn wsX6_bear (va_wsS RX6 55 yX6_checkRange wsX6_checkRange) := goodIn_app (goodIn_of _ (by decide +kernel)) ggX6_bear_X6_checkRange
set_option maxRecDepth 20000 in
theorem ggX6_bear_X2_save : GoodIn wsX6_bear wsX2_save := goodIn_r _ [20, 21, 22, 23, 24, 25, 19, 26, 27, 28, 29, 30, 31, 32, 33, 34, 35, 36, 37, 38, 39, 40, 41, 42, 43, 44, 45, 46, 47, 48, 49, 50, 51, 52, 53, 54, 55, 56, 57, 58, 59, 60, 61, 62, 63, 64, 65, 66, 67, 68, 69, 70, 97, 98, 78, 79, 80, 81, 82, 83, 84, 85, 86, 87, 88, 89, 90, 91, 92, 93, 94, 95, 96, 99, 100, 101, 102] (by decide +kernel) (by decide +kernel)
set_option maxRecDepth 20000 in
theorem gX6_bear_X2_save : GoodIn wsX6_bear (wsV RX6 75 RX2 yX2_save wsX2_save) := goodIn_app (goodIn_of _ (by decide +kernel)) ggX6_bear_X2_save
theorem dX6_bear_0 : decode cX6_bear 0 = .ok (.iload_n 1, 1) := by decide +kernel
theorem dX6_bear_1 : decode cX6_bear 1 = .ok (.invokestatic 82, 3) := by decide +kernel
theorem dX6_bear_4 : decode cX6_bear 4 = .ok (.iload_n 2, 1) := by decide +kernel
theorem dX6_bear_5 : decode cX6_bear 5 = .ok (.iconst 0, 1) := by decide +kernel
theorem dX6_bear_6 : decode cX6_bear 6 = .ok (.sipush 500, 3) := by decide +kernel
theorem dX6_bear_9 : decode cX6_bear 9 = .ok (.invokestatic 55, 3) := by decide +kernel
theorem dX6_bear_12 : decode cX6_bear 12 = .ok (.aload_n 0, 1) := by decide +kernel
theorem dX6_bear_13 : decode cX6_bear 13 = .ok (.getfield 26, 3) := by decide +kernel
theorem dX6_bear_16 : decode cX6_bear 16 = .ok (.aload_n 0, 1) := by decide +kernel
theorem dX6_bear_17 : decode cX6_bear 17 = .ok (.getfield 12, 3) := by decide +kernel
theorem dX6_bear_20 : decode cX6_bear 20 = .ok (.invokevirtual 75, 3) := by decide +kernel
theorem dX6_bear_23 : decode cX6_bear 23 = .ok (.aload_n 0, 1) := by decide +kernel
theorem dX6_bear_24 : decode cX6_bear 24 = .ok (.getfield 12, 3) := by decide +kernel
theorem dX6_bear_27 : decode cX6_bear 27 = .ok (.getfield 62, 3) := by decide +kernel
theorem dX6_bear_30 : decode cX6_bear 30 = .ok (.getfield 93, 3) := by decide +kernel
theorem dX6_bear_33 : decode cX6_bear 33 = .ok (.iload_n 1, 1) := by decide +kernel
theorem dX6_bear_34 : decode cX6_bear 34 = .ok (.iaload, 1) := by decide +kernel
theorem dX6_bear_35 : decode cX6_bear 35 = .ok (.istore_n 3, 1) := by decide +kernel
theorem dX6_bear_36 : decode cX6_bear 36 = .ok (.aload_n 0, 1) := by decide +kernel
theorem dX6_bear_37 : decode cX6_bear 37 = .ok (.getfield 12, 3) := by decide +kernel
theorem dX6_bear_40 : decode cX6_bear 40 = .ok (.getfield 62, 3) := by decide +kernel
theorem dX6_bear_43 : decode cX6_bear 43 = .ok (.getfield 93, 3) := by decide +kernel
theorem dX6_bear_46 : decode cX6_bear 46 = .ok (.iload_n 1, 1) := by decide +kernel
theorem dX6_bear_47 : decode cX6_bear 47 = .ok (.iload_n 2, 1) := by decide +kernel
theorem dX6_bear_48 : decode cX6_bear 48 = .ok (.iastore, 1) := by decide +kernel
theorem dX6_bear_49 : decode cX6_bear 49 = .ok (.iload_n 3, 1) := by decide +kernel
theorem dX6_bear_50 : decode cX6_bear 50 = .ok (.ireturn, 1) := by decide +kernel
set_option maxRecDepth 20000 in
theorem ggX6_tune_X6_checkBalloon : GoodIn wsX6_tune wsX6_checkBalloon := goodIn_ca (goodIn_r _ [9, 10, 11] (by decide +kernel) (by decide +kernel)) (goodIn_sub (fun _ h => List.mem_cons_of_mem _ (List.mem_append_left _ (List.mem_append_right _ h))) (by decide +kernel))
set_option maxRecDepth 20000 in
theorem gX6_tune_X6_checkBalloon : GoodIn wsX6_tune (va_wsS RX6 51 yX6_checkBalloon wsX6_checkBalloon) := goodIn_app (goodIn_of _ (by decide +kernel)) ggX6_tune_X6_checkBalloon
set_option maxRecDepth 20000 in
theorem ggX6_tune_X6_checkRange : GoodIn wsX6_tune wsX6_checkRange := goodIn_ca (goodIn_r _ [14, 15, 16] (by decide +kernel) (by decide +kernel)) (goodIn_sub (fun _ h => List.mem_cons_of_mem _ (List.mem_append_right _ h)) (by decide +kernel))
set_option maxRecDepth 20000 in
theorem gX6_tune_X6_checkRange : GoodIn wsX6_tune (va_wsS RX6 55 yX6_checkRange wsX6_checkRange) := goodIn_app (goodIn_of _ (by decide +kernel)) ggX6_tune_X6_checkRange
set_option maxRecDepth 20000 in
theorem ggX6_tune_X2_save : GoodIn wsX6_tune wsX2_save := goodIn_r _ [21, 22, 23, 24, 25, 26, 20, 27, 28, 29, 30, 31, 32, 33, 34, 35, 36, 37, 38, 39, 40, 41, 42, 43, 44, 45, 46, 47, 48, 49, 50, 51, 52, 53, 54, 55, 56, 57, 58, 59, 60, 61, 62, 63, 64, 65, 66, 67, 68, 69, 70, 71, 96, 97, 84, 85, 86, 87, 88, 89, 90, 91, 92, 93, 94, 95, 98, 99, 100, 101, 102, 103, 104, 105, 106, 107, 108] (by decide +kernel) (by decide +kernel)
set_option maxRecDepth 20000 in
theorem gX6_tune_X2_save : GoodIn wsX6_tune (wsV RX6 75 RX2 yX2_save wsX2_save) := goodIn_app (goodIn_of _ (by decide +kernel)) ggX6_tune_X2_save
set_option maxRecDepth 20000 in
theorem ggX6_tune_X4_tells : GoodIn wsX6_tune wsX4_tells := goodIn_r _ [75, 33, 76, 35, 41, 40, 84, 85, 86, 87, 88, 89, 90, 91, 92, 93, 94, 95, 98, 99, 100, 101, 102, 103, 104] (by decide +kernel) (by decide +kernel)
set_option maxRecDepth 20000 in
theorem gX6_tune_X4_tells : GoodIn wsX6_tune (wsV RX6 96 RX4 yX4_tells wsX4_tells) := goodIn_app (goodIn_of _ (by decide +kernel)) ggX6_tune_X4_tells
theorem dX6_tune_0 : decode cX6_tune 0 = .ok (.iload_n 1, 1) := by decide +kernel
theorem dX6_tune_1 : decode cX6_tune 1 = .ok (.invokestatic 51, 3) := by decide +kernel
theorem dX6_tune_4 : decode cX6_tune 4 = .ok (.iload_n 2, 1) := by decide +kernel
theorem dX6_tune_5 : decode cX6_tune 5 = .ok (.bipush (-20), 2) := by decide +kernel
theorem dX6_tune_7 : decode cX6_tune 7 = .ok (.bipush 20, 2) := by decide +kernel
theorem dX6_tune_9 : decode cX6_tune 9 = .ok (.invokestatic 55, 3) := by decide +kernel
theorem dX6_tune_12 : decode cX6_tune 12 = .ok (.aload_n 0, 1) := by decide +kernel
theorem dX6_tune_13 : decode cX6_tune 13 = .ok (.getfield 26, 3) := by decide +kernel
theorem dX6_tune_16 : decode cX6_tune 16 = .ok (.aload_n 0, 1) := by decide +kernel
theorem dX6_tune_17 : decode cX6_tune 17 = .ok (.getfield 12, 3) := by decide +kernel
theorem dX6_tune_20 : decode cX6_tune 20 = .ok (.invokevirtual 75, 3) := by decide +kernel
theorem dX6_tune_23 : decode cX6_tune 23 = .ok (.aload_n 0, 1) := by decide +kernel
theorem dX6_tune_24 : decode cX6_tune 24 = .ok (.getfield 12, 3) := by decide +kernel
theorem dX6_tune_27 : decode cX6_tune 27 = .ok (.iload_n 1, 1) := by decide +kernel
theorem dX6_tune_28 : decode cX6_tune 28 = .ok (.invokevirtual 96, 3) := by decide +kernel
theorem dX6_tune_31 : decode cX6_tune 31 = .ok (.istore_n 3, 1) := by decide +kernel
theorem dX6_tune_32 : decode cX6_tune 32 = .ok (.aload_n 0, 1) := by decide +kernel
theorem dX6_tune_33 : decode cX6_tune 33 = .ok (.getfield 12, 3) := by decide +kernel
theorem dX6_tune_36 : decode cX6_tune 36 = .ok (.getfield 99, 3) := by decide +kernel
theorem dX6_tune_39 : decode cX6_tune 39 = .ok (.iload_n 1, 1) := by decide +kernel
theorem dX6_tune_40 : decode cX6_tune 40 = .ok (.iload_n 2, 1) := by decide +kernel
theorem dX6_tune_41 : decode cX6_tune 41 = .ok (.iastore, 1) := by decide +kernel
theorem dX6_tune_42 : decode cX6_tune 42 = .ok (.aload_n 0, 1) := by decide +kernel
theorem dX6_tune_43 : decode cX6_tune 43 = .ok (.getfield 12, 3) := by decide +kernel
theorem dX6_tune_46 : decode cX6_tune 46 = .ok (.getfield 102, 3) := by decide +kernel
theorem dX6_tune_49 : decode cX6_tune 49 = .ok (.iload_n 1, 1) := by decide +kernel
theorem dX6_tune_50 : decode cX6_tune 50 = .ok (.aload_n 0, 1) := by decide +kernel
theorem dX6_tune_51 : decode cX6_tune 51 = .ok (.getfield 12, 3) := by decide +kernel
theorem dX6_tune_54 : decode cX6_tune 54 = .ok (.getfield 105, 3) := by decide +kernel
theorem dX6_tune_57 : decode cX6_tune 57 = .ok (.iastore, 1) := by decide +kernel
theorem dX6_tune_58 : decode cX6_tune 58 = .ok (.iload_n 3, 1) := by decide +kernel
theorem dX6_tune_59 : decode cX6_tune 59 = .ok (.ireturn, 1) := by decide +kernel
set_option maxRecDepth 20000 in
theorem ggX6_note_X6_checkBalloon : GoodIn wsX6_note wsX6_checkBalloon := goodIn_ca (goodIn_r _ [6, 7, 8] (by decide +kernel) (by decide +kernel)) (goodIn_sub (fun _ h => List.mem_cons_of_mem _ (List.mem_append_right _ h)) (by decide +kernel))
set_option maxRecDepth 20000 in
theorem gX6_note_X6_checkBalloon : GoodIn wsX6_note (va_wsS RX6 51 yX6_checkBalloon wsX6_checkBalloon) := goodIn_app (goodIn_of _ (by decide +kernel)) ggX6_note_X6_checkBalloon
set_option maxRecDepth 20000 in
theorem ggX6_note_X2_save : GoodIn wsX6_note wsX2_save := goodIn_r _ [13, 14, 15, 16, 17, 18, 12, 19, 20, 21, 22, 23, 24, 25, 26, 27, 28, 29, 30, 31, 32, 33, 34, 35, 36, 37, 38, 39, 40, 41, 42, 43, 44, 45, 46, 47, 48, 49, 50, 51, 52, 53, 54, 55, 56, 57, 58, 59, 60, 61, 62, 63, 93, 94, 95, 96, 97, 98, 99, 100, 101, 102, 103, 104, 105, 106, 107, 108, 109, 110, 111, 112, 113, 114, 115, 116, 117] (by decide +kernel) (by decide +kernel)
set_option maxRecDepth 20000 in
theorem gX6_note_X2_save : GoodIn wsX6_note (wsV RX6 75 RX2 yX2_save wsX2_save) := goodIn_app (goodIn_of _ (by decide +kernel)) ggX6_note_X2_save
set_option maxRecDepth 20000 in
theorem ggX6_note_X4_writeNote : GoodIn wsX6_note wsX4_writeNote := goodIn_r _ [67, 26, 33, 68, 69, 70, 23, 71, 25, 72, 27, 32, 73, 74, 75, 57, 76, 63, 59, 61, 62, 77, 78, 79, 80, 81, 82, 83, 84, 60, 29, 30, 31, 95, 96, 97, 98, 99, 100, 101, 102, 103, 104, 105, 106, 107, 108, 109, 110, 111, 112, 113, 114, 115, 116, 117] (by decide +kernel) (by decide +kernel)
set_option maxRecDepth 20000 in
theorem gX6_note_X4_writeNote : GoodIn wsX6_note (wsV RX6 109 RX4 yX4_writeNote wsX4_writeNote) := goodIn_app (goodIn_of _ (by decide +kernel)) ggX6_note_X4_writeNote
set_option maxRecDepth 20000 in
theorem ggX6_note_X4_tells : GoodIn wsX6_note wsX4_tells := goodIn_r _ [71, 25, 72, 27, 33, 32, 95, 96, 97, 98, 99, 100, 101, 102, 103, 104, 105, 106, 107, 108, 109, 110, 111, 112, 113] (by decide +kernel) (by decide +kernel)
set_option maxRecDepth 20000 in
theorem gX6_note_X4_tells : GoodIn wsX6_note (wsV RX6 96 RX4 yX4_tells wsX4_tells) := goodIn_app (goodIn_of _ (by decide +kernel)) ggX6_note_X4_tells
theorem dX6_note_0 : decode cX6_note 0 = .ok (.iload_n 1, 1) := by decide +kernel
theorem dX6_note_1 : decode cX6_note 1 = .ok (.invokestatic 51, 3) := by decide +kernel
theorem dX6_note_4 : decode cX6_note 4 = .ok (.aload_n 0, 1) := by decide +kernel
theorem dX6_note_5 : decode cX6_note 5 = .ok (.getfield 26, 3) := by decide +kernel
theorem dX6_note_8 : decode cX6_note 8 = .ok (.aload_n 0, 1) := by decide +kernel
theorem dX6_note_9 : decode cX6_note 9 = .ok (.getfield 12, 3) := by decide +kernel
theorem dX6_note_12 : decode cX6_note 12 = .ok (.invokevirtual 75, 3) := by decide +kernel
theorem dX6_note_15 : decode cX6_note 15 = .ok (.aload_n 0, 1) := by decide +kernel
theorem dX6_note_16 : decode cX6_note 16 = .ok (.getfield 12, 3) := by decide +kernel
theorem dX6_note_19 : decode cX6_note 19 = .ok (.iload_n 1, 1) := by decide +kernel
theorem dX6_note_20 : decode cX6_note 20 = .ok (.invokevirtual 109, 3) := by decide +kernel
theorem dX6_note_23 : decode cX6_note 23 = .ok (.aload_n 0, 1) := by decide +kernel
theorem dX6_note_24 : decode cX6_note 24 = .ok (.getfield 12, 3) := by decide +kernel
theorem dX6_note_27 : decode cX6_note 27 = .ok (.iload_n 1, 1) := by decide +kernel
theorem dX6_note_28 : decode cX6_note 28 = .ok (.invokevirtual 96, 3) := by decide +kernel
theorem dX6_note_31 : decode cX6_note 31 = .ok (.ireturn, 1) := by decide +kernel
set_option maxRecDepth 20000 in
theorem ggX6_pass_X6_checkRange : GoodIn wsX6_pass wsX6_checkRange := goodIn_ca (goodIn_r _ [7, 8, 9] (by decide +kernel) (by decide +kernel)) (goodIn_sub (fun _ h => List.mem_cons_of_mem _ (List.mem_append_right _ h)) (by decide +kernel))
set_option maxRecDepth 20000 in
theorem gX6_pass_X6_checkRange : GoodIn wsX6_pass (va_wsS RX6 55 yX6_checkRange wsX6_checkRange) := goodIn_app (goodIn_of _ (by decide +kernel)) ggX6_pass_X6_checkRange
set_option maxRecDepth 20000 in
theorem ggX6_pass_X2_save : GoodIn wsX6_pass wsX2_save := goodIn_r _ [14, 15, 16, 17, 18, 19, 13, 20, 21, 22, 23, 24, 25, 26, 27, 28, 29, 30, 31, 32, 33, 34, 35, 36, 37, 38, 39, 40, 41, 42, 43, 44, 45, 46, 47, 48, 49, 50, 51, 52, 53, 54, 55, 56, 57, 58, 59, 60, 61, 62, 63, 64, 127, 128, 115, 116, 117, 118, 119, 120, 121, 122, 123, 124, 125, 126, 129, 130, 131, 132, 133, 134, 135, 136, 137, 138, 139] (by decide +kernel) (by decide +kernel)
set_option maxRecDepth 20000 in
theorem gX6_pass_X2_save : GoodIn wsX6_pass (wsV RX6 75 RX2 yX2_save wsX2_save) := goodIn_app (goodIn_of _ (by decide +kernel)) ggX6_pass_X2_save
set_option maxRecDepth 20000 in
theorem ggX6_pass_X4_passHours : GoodIn wsX6_pass wsX4_passHours := goodIn_r _ [68, 34, 36, 26, 38, 69, 70, 71, 45, 72, 47, 50, 73, 74, 75, 76, 77, 78, 79, 80, 54, 81, 82, 83, 84, 85, 86, 87, 88, 89, 90, 91, 49, 92, 93, 94, 95, 51, 52, 96, 97, 98, 99, 53, 100, 101, 102, 103, 104, 105, 106, 107, 115, 116, 117, 118, 119, 120, 121, 122, 123, 124, 125, 126, 129, 130, 131, 132, 133, 134, 135] (by decide +kernel) (by decide +kernel)
set_option maxRecDepth 20000 in
theorem gX6_pass_X4_passHours : GoodIn wsX6_pass (wsV RX6 115 RX4 yX4_passHours wsX4_passHours) := goodIn_app (goodIn_of _ (by decide +kernel)) ggX6_pass_X4_passHours
theorem dX6_pass_0 : decode cX6_pass 0 = .ok (.iload_n 1, 1) := by decide +kernel
theorem dX6_pass_1 : decode cX6_pass 1 = .ok (.iconst 1, 1) := by decide +kernel
theorem dX6_pass_2 : decode cX6_pass 2 = .ok (.bipush 99, 2) := by decide +kernel
theorem dX6_pass_4 : decode cX6_pass 4 = .ok (.invokestatic 55, 3) := by decide +kernel
theorem dX6_pass_7 : decode cX6_pass 7 = .ok (.aload_n 0, 1) := by decide +kernel
theorem dX6_pass_8 : decode cX6_pass 8 = .ok (.getfield 26, 3) := by decide +kernel
theorem dX6_pass_11 : decode cX6_pass 11 = .ok (.aload_n 0, 1) := by decide +kernel
theorem dX6_pass_12 : decode cX6_pass 12 = .ok (.getfield 12, 3) := by decide +kernel
theorem dX6_pass_15 : decode cX6_pass 15 = .ok (.invokevirtual 75, 3) := by decide +kernel
theorem dX6_pass_18 : decode cX6_pass 18 = .ok (.aload_n 0, 1) := by decide +kernel
theorem dX6_pass_19 : decode cX6_pass 19 = .ok (.getfield 12, 3) := by decide +kernel
theorem dX6_pass_22 : decode cX6_pass 22 = .ok (.getfield 112, 3) := by decide +kernel
theorem dX6_pass_25 : decode cX6_pass 25 = .ok (.istore_n 2, 1) := by decide +kernel
theorem dX6_pass_26 : decode cX6_pass 26 = .ok (.aload_n 0, 1) := by decide +kernel
theorem dX6_pass_27 : decode cX6_pass 27 = .ok (.getfield 12, 3) := by decide +kernel
theorem dX6_pass_30 : decode cX6_pass 30 = .ok (.iload_n 1, 1) := by decide +kernel
theorem dX6_pass_31 : decode cX6_pass 31 = .ok (.invokevirtual 115, 3) := by decide +kernel
theorem dX6_pass_34 : decode cX6_pass 34 = .ok (.aload_n 0, 1) := by decide +kernel
theorem dX6_pass_35 : decode cX6_pass 35 = .ok (.getfield 12, 3) := by decide +kernel
theorem dX6_pass_38 : decode cX6_pass 38 = .ok (.getfield 112, 3) := by decide +kernel
theorem dX6_pass_41 : decode cX6_pass 41 = .ok (.iload_n 2, 1) := by decide +kernel
theorem dX6_pass_42 : decode cX6_pass 42 = .ok (.isub, 1) := by decide +kernel
theorem dX6_pass_43 : decode cX6_pass 43 = .ok (.ireturn, 1) := by decide +kernel
set_option maxRecDepth 20000 in
theorem ggX6_keep_X4_copyFrom : GoodIn wsX6_keep wsX4_copyFrom := goodIn_r _ [9, 10, 11, 12, 13, 14, 15, 16, 17, 18, 19, 20, 21, 22, 23, 24, 25, 26, 27, 28, 29, 30, 31, 32, 33, 34, 35, 36, 37, 38, 39, 40, 41, 42, 43, 44, 45, 46, 47, 48, 56, 57, 58, 59, 60, 61, 62, 63, 64, 65, 66, 67, 68, 69, 70, 71, 72, 73, 74, 75, 76, 77, 78] (by decide +kernel) (by decide +kernel)
set_option maxRecDepth 20000 in
theorem gX6_keep_X4_copyFrom : GoodIn wsX6_keep (wsV RX6 157 RX4 yX4_copyFrom wsX4_copyFrom) := goodIn_app (goodIn_of _ (by decide +kernel)) ggX6_keep_X4_copyFrom
theorem dX6_keep_0 : decode cX6_keep 0 = .ok (.aload_n 0, 1) := by decide +kernel
theorem dX6_keep_1 : decode cX6_keep 1 = .ok (.getfield 16, 3) := by decide +kernel
theorem dX6_keep_4 : decode cX6_keep 4 = .ok (.aload_n 0, 1) := by decide +kernel
theorem dX6_keep_5 : decode cX6_keep 5 = .ok (.getfield 12, 3) := by decide +kernel
theorem dX6_keep_8 : decode cX6_keep 8 = .ok (.invokevirtual 157, 3) := by decide +kernel
theorem dX6_keep_11 : decode cX6_keep 11 = .ok (.aload_n 0, 1) := by decide +kernel
theorem dX6_keep_12 : decode cX6_keep 12 = .ok (.iconst 1, 1) := by decide +kernel
theorem dX6_keep_13 : decode cX6_keep 13 = .ok (.putfield 19, 3) := by decide +kernel
theorem dX6_keep_16 : decode cX6_keep 16 = .ok (.aload_n 0, 1) := by decide +kernel
theorem dX6_keep_17 : decode cX6_keep 17 = .ok (.getfield 12, 3) := by decide +kernel
theorem dX6_keep_20 : decode cX6_keep 20 = .ok (.getfield 105, 3) := by decide +kernel
theorem dX6_keep_23 : decode cX6_keep 23 = .ok (.ireturn, 1) := by decide +kernel
set_option maxRecDepth 20000 in
theorem ggX6_goBack_X2_save : GoodIn wsX6_goBack wsX2_save := goodIn_r _ [12, 13, 14, 15, 16, 17, 11, 18, 19, 20, 21, 22, 23, 24, 25, 26, 27, 28, 29, 30, 31, 32, 33, 34, 35, 36, 37, 38, 39, 40, 41, 42, 43, 44, 45, 46, 47, 48, 49, 50, 51, 52, 53, 54, 55, 56, 57, 58, 59, 60, 61, 62, 83, 84, 71, 72, 73, 74, 75, 76, 77, 78, 79, 80, 81, 82, 85, 86, 87, 88, 89, 90, 91, 92, 93, 94, 95] (by decide +kernel) (by decide +kernel)
set_option maxRecDepth 20000 in
theorem gX6_goBack_X2_save : GoodIn wsX6_goBack (wsV RX6 75 RX2 yX2_save wsX2_save) := goodIn_app (goodIn_of _ (by decide +kernel)) ggX6_goBack_X2_save
set_option maxRecDepth 20000 in
theorem ggX6_goBack_X4_copyFrom : GoodIn wsX6_goBack wsX4_copyFrom := goodIn_r _ [23, 24, 25, 26, 27, 28, 29, 30, 31, 32, 33, 34, 35, 36, 37, 38, 39, 40, 41, 42, 43, 44, 45, 46, 47, 48, 49, 50, 51, 52, 53, 54, 55, 56, 57, 58, 59, 60, 61, 62, 71, 72, 73, 74, 75, 76, 77, 78, 79, 80, 81, 82, 85, 86, 87, 88, 89, 90, 91, 92, 93, 94, 95] (by decide +kernel) (by decide +kernel)
set_option maxRecDepth 20000 in
theorem gX6_goBack_X4_copyFrom : GoodIn wsX6_goBack (wsV RX6 157 RX4 yX4_copyFrom wsX4_copyFrom) := goodIn_app (goodIn_of _ (by decide +kernel)) ggX6_goBack_X4_copyFrom
theorem dX6_goBack_0 : decode cX6_goBack 0 = .ok (.aload_n 0, 1) := by decide +kernel
theorem dX6_goBack_1 : decode cX6_goBack 1 = .ok (.getfield 19, 3) := by decide +kernel
theorem dX6_goBack_4 : decode cX6_goBack 4 = .ok (.ifCond .ne 13, 3) := by decide +kernel
theorem dX6_goBack_7 : decode cX6_goBack 7 = .ok (.new 121, 3) := by decide +kernel
theorem dX6_goBack_10 : decode cX6_goBack 10 = .ok (.dup, 1) := by decide +kernel
theorem dX6_goBack_11 : decode cX6_goBack 11 = .ok (.ldc 160, 2) := by decide +kernel
theorem dX6_goBack_13 : decode cX6_goBack 13 = .ok (.invokespecial 125, 3) := by decide +kernel
theorem dX6_goBack_16 : decode cX6_goBack 16 = .ok (.athrow, 1) := by decide +kernel
theorem dX6_goBack_17 : decode cX6_goBack 17 = .ok (.aload_n 0, 1) := by decide +kernel
theorem dX6_goBack_18 : decode cX6_goBack 18 = .ok (.getfield 26, 3) := by decide +kernel
theorem dX6_goBack_21 : decode cX6_goBack 21 = .ok (.aload_n 0, 1) := by decide +kernel
theorem dX6_goBack_22 : decode cX6_goBack 22 = .ok (.getfield 12, 3) := by decide +kernel
theorem dX6_goBack_25 : decode cX6_goBack 25 = .ok (.invokevirtual 75, 3) := by decide +kernel
theorem dX6_goBack_28 : decode cX6_goBack 28 = .ok (.aload_n 0, 1) := by decide +kernel
theorem dX6_goBack_29 : decode cX6_goBack 29 = .ok (.getfield 12, 3) := by decide +kernel
theorem dX6_goBack_32 : decode cX6_goBack 32 = .ok (.aload_n 0, 1) := by decide +kernel
theorem dX6_goBack_33 : decode cX6_goBack 33 = .ok (.getfield 16, 3) := by decide +kernel
theorem dX6_goBack_36 : decode cX6_goBack 36 = .ok (.invokevirtual 157, 3) := by decide +kernel
theorem dX6_goBack_39 : decode cX6_goBack 39 = .ok (.aload_n 0, 1) := by decide +kernel
theorem dX6_goBack_40 : decode cX6_goBack 40 = .ok (.getfield 12, 3) := by decide +kernel
theorem dX6_goBack_43 : decode cX6_goBack 43 = .ok (.getfield 105, 3) := by decide +kernel
theorem dX6_goBack_46 : decode cX6_goBack 46 = .ok (.ireturn, 1) := by decide +kernel
set_option maxRecDepth 20000 in
theorem ggX6_undo_X2_restore : GoodIn wsX6_undo wsX2_restore := goodIn_r _ [10, 11, 12, 13, 14, 15, 16, 17, 18, 19, 20, 21, 22, 23, 24, 25, 26, 27, 28, 29, 30, 31, 32, 33, 34, 35, 36, 37, 38, 39, 40, 41, 42, 43, 44, 45, 46, 47, 48, 49, 50, 51, 52, 53, 54, 55, 56, 64, 65, 66, 67, 68, 69, 70, 71, 72, 73, 74, 75, 76, 77, 78, 79, 80, 81, 82, 83, 84, 85, 86, 87, 88] (by decide +kernel) (by decide +kernel)
set_option maxRecDepth 20000 in
theorem gX6_undo_X2_restore : GoodIn wsX6_undo (wsV RX6 167 RX2 yX2_restore wsX2_restore) := goodIn_app (goodIn_of _ (by decide +kernel)) ggX6_undo_X2_restore
theorem dX6_undo_0 : decode cX6_undo 0 = .ok (.aload_n 0, 1) := by decide +kernel
theorem dX6_undo_1 : decode cX6_undo 1 = .ok (.getfield 26, 3) := by decide +kernel
theorem dX6_undo_4 : decode cX6_undo 4 = .ok (.getfield 162, 3) := by decide +kernel
theorem dX6_undo_7 : decode cX6_undo 7 = .ok (.ifCond .ne 13, 3) := by decide +kernel
theorem dX6_undo_10 : decode cX6_undo 10 = .ok (.new 121, 3) := by decide +kernel
theorem dX6_undo_13 : decode cX6_undo 13 = .ok (.dup, 1) := by decide +kernel
theorem dX6_undo_14 : decode cX6_undo 14 = .ok (.ldc 165, 2) := by decide +kernel
theorem dX6_undo_16 : decode cX6_undo 16 = .ok (.invokespecial 125, 3) := by decide +kernel
theorem dX6_undo_19 : decode cX6_undo 19 = .ok (.athrow, 1) := by decide +kernel
theorem dX6_undo_20 : decode cX6_undo 20 = .ok (.aload_n 0, 1) := by decide +kernel
theorem dX6_undo_21 : decode cX6_undo 21 = .ok (.getfield 26, 3) := by decide +kernel
theorem dX6_undo_24 : decode cX6_undo 24 = .ok (.aload_n 0, 1) := by decide +kernel
theorem dX6_undo_25 : decode cX6_undo 25 = .ok (.getfield 12, 3) := by decide +kernel
theorem dX6_undo_28 : decode cX6_undo 28 = .ok (.invokevirtual 167, 3) := by decide +kernel
theorem dX6_undo_31 : decode cX6_undo 31 = .ok (.aload_n 0, 1) := by decide +kernel
theorem dX6_undo_32 : decode cX6_undo 32 = .ok (.getfield 26, 3) := by decide +kernel
theorem dX6_undo_35 : decode cX6_undo 35 = .ok (.getfield 162, 3) := by decide +kernel
theorem dX6_undo_38 : decode cX6_undo 38 = .ok (.ireturn, 1) := by decide +kernel
set_option maxRecDepth 20000 in
theorem ggX6_balloon_X6_checkBalloon : GoodIn wsX6_balloon wsX6_checkBalloon := goodIn_ca (goodIn_r _ [13, 14, 15] (by decide +kernel) (by decide +kernel)) (goodIn_sub (fun _ h => List.mem_cons_of_mem _ (List.mem_append_left _ (List.mem_append_right _ h))) (by decide +kernel))
set_option maxRecDepth 20000 in
theorem gX6_balloon_X6_checkBalloon : GoodIn wsX6_balloon (va_wsS RX6 51 yX6_checkBalloon wsX6_checkBalloon) := goodIn_app (goodIn_of _ (by decide +kernel)) ggX6_balloon_X6_checkBalloon
set_option maxRecDepth 20000 in
theorem ggX6_balloon_X6_checkRange : GoodIn wsX6_balloon wsX6_checkRange := goodIn_ca (goodIn_r _ [18, 19, 20] (by decide +kernel) (by decide +kernel)) (goodIn_sub (fun _ h => List.mem_cons_of_mem _ (List.mem_append_right _ h)) (by decide +kernel))
set_option maxRecDepth 20000 in
theorem gX6_balloon_X6_checkRange : GoodIn wsX6_balloon (va_wsS RX6 55 yX6_checkRange wsX6_checkRange) := goodIn_app (goodIn_of _ (by decide +kernel)) ggX6_balloon_X6_checkRange
set_option maxRecDepth 20000 in
theorem ggX6_balloon_X0_lift : GoodIn wsX6_balloon wsX0_lift := goodIn_r _ [25, 26, 27, 85, 86, 87, 88, 89, 90, 91] (by decide +kernel) (by decide +kernel)
set_option maxRecDepth 20000 in
theorem gX6_balloon_X0_lift : GoodIn wsX6_balloon (wsV RX6 170 RX0 yX0_lift wsX0_lift) := goodIn_app (goodIn_of _ (by decide +kernel)) ggX6_balloon_X0_lift
set_option maxRecDepth 20000 in
theorem ggX6_balloon_X0_wanted : GoodIn wsX6_balloon wsX0_wanted := goodIn_r _ [31, 32, 33, 34, 35, 36, 37, 38, 39, 22, 23, 24, 25, 26, 27, 85, 86, 87, 88, 89, 90, 91] (by decide +kernel) (by decide +kernel)
set_option maxRecDepth 20000 in
theorem gX6_balloon_X0_wanted : GoodIn wsX6_balloon (wsV RX6 173 RX0 yX0_wanted wsX0_wanted) := goodIn_app (goodIn_of _ (by decide +kernel)) ggX6_balloon_X0_wanted
set_option maxRecDepth 20000 in
theorem ggX6_balloon_X0_heightByString : GoodIn wsX6_balloon wsX0_heightByString := goodIn_r _ [43, 44, 45, 32, 33, 34, 35, 46, 29, 30, 24, 31, 36, 37, 38, 39, 22, 23, 25, 26, 27, 85, 86, 87, 88, 89, 90, 91] (by decide +kernel) (by decide +kernel)
set_option maxRecDepth 20000 in
theorem gX6_balloon_X0_heightByString : GoodIn wsX6_balloon (wsV RX6 176 RX0 yX0_heightByString wsX0_heightByString) := goodIn_app (goodIn_of _ (by decide +kernel)) ggX6_balloon_X0_heightByString
set_option maxRecDepth 20000 in
theorem ggX6_balloon_X4_tells : GoodIn wsX6_balloon wsX4_tells := goodIn_r _ [51, 52, 53, 54, 55, 56, 73, 74, 75, 76, 77, 78, 79, 80, 81, 82, 83, 84, 85, 86, 87, 88, 89, 90, 91] (by decide +kernel) (by decide +kernel)
set_option maxRecDepth 20000 in
theorem gX6_balloon_X4_tells : GoodIn wsX6_balloon (wsV RX6 96 RX4 yX4_tells wsX4_tells) := goodIn_app (goodIn_of _ (by decide +kernel)) ggX6_balloon_X4_tells
set_option maxRecDepth 20000 in
theorem ggX6_balloon_X0_stringStart : GoodIn wsX6_balloon wsX0_stringStart := goodIn_r _ [60, 44, 85, 86, 87, 88, 89, 90, 91] (by decide +kernel) (by decide +kernel)
set_option maxRecDepth 20000 in
theorem gX6_balloon_X0_stringStart : GoodIn wsX6_balloon (wsV RX6 179 RX0 yX0_stringStart wsX0_stringStart) := goodIn_app (goodIn_of _ (by decide +kernel)) ggX6_balloon_X0_stringStart
set_option maxRecDepth 20000 in
theorem ggX6_balloon_X0_stringSize : GoodIn wsX6_balloon wsX0_stringSize := goodIn_r _ [64, 44, 65, 58, 59, 24, 60, 85, 86, 87, 88, 89, 90, 91] (by decide +kernel) (by decide +kernel)
set_option maxRecDepth 20000 in
theorem gX6_balloon_X0_stringSize : GoodIn wsX6_balloon (wsV RX6 85 RX0 yX0_stringSize wsX0_stringSize) := goodIn_app (goodIn_of _ (by decide +kernel)) ggX6_balloon_X0_stringSize
theorem dX6_balloon_0 : decode cX6_balloon 0 = .ok (.iload_n 1, 1) := by decide +kernel
theorem dX6_balloon_1 : decode cX6_balloon 1 = .ok (.invokestatic 51, 3) := by decide +kernel
theorem dX6_balloon_4 : decode cX6_balloon 4 = .ok (.iload_n 2, 1) := by decide +kernel
theorem dX6_balloon_5 : decode cX6_balloon 5 = .ok (.iconst 0, 1) := by decide +kernel
theorem dX6_balloon_6 : decode cX6_balloon 6 = .ok (.bipush 11, 2) := by decide +kernel
theorem dX6_balloon_8 : decode cX6_balloon 8 = .ok (.invokestatic 55, 3) := by decide +kernel
theorem dX6_balloon_11 : decode cX6_balloon 11 = .ok (.aload_n 0, 1) := by decide +kernel
theorem dX6_balloon_12 : decode cX6_balloon 12 = .ok (.getfield 12, 3) := by decide +kernel
theorem dX6_balloon_15 : decode cX6_balloon 15 = .ok (.getfield 62, 3) := by decide +kernel
theorem dX6_balloon_18 : decode cX6_balloon 18 = .ok (.astore_n 3, 1) := by decide +kernel
theorem dX6_balloon_19 : decode cX6_balloon 19 = .ok (.iload_n 2, 1) := by decide +kernel
theorem dX6_balloon_20 : decode cX6_balloon 20 = .ok (.tableswitch 149 0 10 #[60, 67, 74, 81, 87, 93, 100, 106, 116, 134, 143], 60) := by decide +kernel
theorem dX6_balloon_80 : decode cX6_balloon 80 = .ok (.aload_n 3, 1) := by decide +kernel
theorem dX6_balloon_81 : decode cX6_balloon 81 = .ok (.getfield 65, 3) := by decide +kernel
theorem dX6_balloon_84 : decode cX6_balloon 84 = .ok (.iload_n 1, 1) := by decide +kernel
theorem dX6_balloon_85 : decode cX6_balloon 85 = .ok (.iaload, 1) := by decide +kernel
theorem dX6_balloon_86 : decode cX6_balloon 86 = .ok (.ireturn, 1) := by decide +kernel
theorem dX6_balloon_87 : decode cX6_balloon 87 = .ok (.aload_n 3, 1) := by decide +kernel
theorem dX6_balloon_88 : decode cX6_balloon 88 = .ok (.getfield 72, 3) := by decide +kernel
theorem dX6_balloon_91 : decode cX6_balloon 91 = .ok (.iload_n 1, 1) := by decide +kernel
theorem dX6_balloon_92 : decode cX6_balloon 92 = .ok (.iaload, 1) := by decide +kernel
theorem dX6_balloon_93 : decode cX6_balloon 93 = .ok (.ireturn, 1) := by decide +kernel
theorem dX6_balloon_94 : decode cX6_balloon 94 = .ok (.aload_n 3, 1) := by decide +kernel
theorem dX6_balloon_95 : decode cX6_balloon 95 = .ok (.getfield 79, 3) := by decide +kernel
theorem dX6_balloon_98 : decode cX6_balloon 98 = .ok (.iload_n 1, 1) := by decide +kernel
theorem dX6_balloon_99 : decode cX6_balloon 99 = .ok (.iaload, 1) := by decide +kernel
theorem dX6_balloon_100 : decode cX6_balloon 100 = .ok (.ireturn, 1) := by decide +kernel
theorem dX6_balloon_101 : decode cX6_balloon 101 = .ok (.aload_n 3, 1) := by decide +kernel
theorem dX6_balloon_102 : decode cX6_balloon 102 = .ok (.iload_n 1, 1) := by decide +kernel
theorem dX6_balloon_103 : decode cX6_balloon 103 = .ok (.invokevirtual 170, 3) := by decide +kernel
theorem dX6_balloon_106 : decode cX6_balloon 106 = .ok (.ireturn, 1) := by decide +kernel
theorem dX6_balloon_107 : decode cX6_balloon 107 = .ok (.aload_n 3, 1) := by decide +kernel
theorem dX6_balloon_108 : decode cX6_balloon 108 = .ok (.iload_n 1, 1) := by decide +kernel
theorem dX6_balloon_109 : decode cX6_balloon 109 = .ok (.invokevirtual 173, 3) := by decide +kernel
theorem dX6_balloon_112 : decode cX6_balloon 112 = .ok (.ireturn, 1) := by decide +kernel
theorem dX6_balloon_113 : decode cX6_balloon 113 = .ok (.aload_n 3, 1) := by decide +kernel
theorem dX6_balloon_114 : decode cX6_balloon 114 = .ok (.getfield 69, 3) := by decide +kernel
theorem dX6_balloon_117 : decode cX6_balloon 117 = .ok (.iload_n 1, 1) := by decide +kernel
theorem dX6_balloon_118 : decode cX6_balloon 118 = .ok (.iaload, 1) := by decide +kernel
theorem dX6_balloon_119 : decode cX6_balloon 119 = .ok (.ireturn, 1) := by decide +kernel
theorem dX6_balloon_120 : decode cX6_balloon 120 = .ok (.aload_n 3, 1) := by decide +kernel
theorem dX6_balloon_121 : decode cX6_balloon 121 = .ok (.iload_n 1, 1) := by decide +kernel
theorem dX6_balloon_122 : decode cX6_balloon 122 = .ok (.invokevirtual 176, 3) := by decide +kernel
theorem dX6_balloon_125 : decode cX6_balloon 125 = .ok (.ireturn, 1) := by decide +kernel
theorem dX6_balloon_126 : decode cX6_balloon 126 = .ok (.aload_n 0, 1) := by decide +kernel
theorem dX6_balloon_127 : decode cX6_balloon 127 = .ok (.getfield 12, 3) := by decide +kernel
theorem dX6_balloon_130 : decode cX6_balloon 130 = .ok (.getfield 99, 3) := by decide +kernel
theorem dX6_balloon_133 : decode cX6_balloon 133 = .ok (.iload_n 1, 1) := by decide +kernel
theorem dX6_balloon_134 : decode cX6_balloon 134 = .ok (.iaload, 1) := by decide +kernel
theorem dX6_balloon_135 : decode cX6_balloon 135 = .ok (.ireturn, 1) := by decide +kernel
theorem dX6_balloon_136 : decode cX6_balloon 136 = .ok (.aload_n 0, 1) := by decide +kernel
theorem dX6_balloon_137 : decode cX6_balloon 137 = .ok (.getfield 12, 3) := by decide +kernel
theorem dX6_balloon_140 : decode cX6_balloon 140 = .ok (.getfield 105, 3) := by decide +kernel
theorem dX6_balloon_143 : decode cX6_balloon 143 = .ok (.aload_n 0, 1) := by decide +kernel
theorem dX6_balloon_144 : decode cX6_balloon 144 = .ok (.getfield 12, 3) := by decide +kernel
theorem dX6_balloon_147 : decode cX6_balloon 147 = .ok (.getfield 102, 3) := by decide +kernel
theorem dX6_balloon_150 : decode cX6_balloon 150 = .ok (.iload_n 1, 1) := by decide +kernel
theorem dX6_balloon_151 : decode cX6_balloon 151 = .ok (.iaload, 1) := by decide +kernel
theorem dX6_balloon_152 : decode cX6_balloon 152 = .ok (.isub, 1) := by decide +kernel
theorem dX6_balloon_153 : decode cX6_balloon 153 = .ok (.ireturn, 1) := by decide +kernel
theorem dX6_balloon_154 : decode cX6_balloon 154 = .ok (.aload_n 0, 1) := by decide +kernel
theorem dX6_balloon_155 : decode cX6_balloon 155 = .ok (.getfield 12, 3) := by decide +kernel
theorem dX6_balloon_158 : decode cX6_balloon 158 = .ok (.iload_n 1, 1) := by decide +kernel
theorem dX6_balloon_159 : decode cX6_balloon 159 = .ok (.invokevirtual 96, 3) := by decide +kernel
theorem dX6_balloon_162 : decode cX6_balloon 162 = .ok (.ireturn, 1) := by decide +kernel
theorem dX6_balloon_163 : decode cX6_balloon 163 = .ok (.aload_n 3, 1) := by decide +kernel
theorem dX6_balloon_164 : decode cX6_balloon 164 = .ok (.iload_n 1, 1) := by decide +kernel
theorem dX6_balloon_165 : decode cX6_balloon 165 = .ok (.invokevirtual 179, 3) := by decide +kernel
theorem dX6_balloon_168 : decode cX6_balloon 168 = .ok (.ireturn, 1) := by decide +kernel
theorem dX6_balloon_169 : decode cX6_balloon 169 = .ok (.aload_n 3, 1) := by decide +kernel
theorem dX6_balloon_170 : decode cX6_balloon 170 = .ok (.iload_n 1, 1) := by decide +kernel
theorem dX6_balloon_171 : decode cX6_balloon 171 = .ok (.invokevirtual 85, 3) := by decide +kernel
theorem dX6_balloon_174 : decode cX6_balloon 174 = .ok (.ireturn, 1) := by decide +kernel
set_option maxRecDepth 20000 in
theorem ggX6_ribbon_X6_checkRibbon : GoodIn wsX6_ribbon wsX6_checkRibbon := goodIn_ca (goodIn_r _ [9, 10, 11] (by decide +kernel) (by decide +kernel)) (goodIn_sub (fun _ h => List.mem_cons_of_mem _ (List.mem_append_left _ (List.mem_append_right _ h))) (by decide +kernel))
set_option maxRecDepth 20000 in
theorem gX6_ribbon_X6_checkRibbon : GoodIn wsX6_ribbon (va_wsS RX6 82 yX6_checkRibbon wsX6_checkRibbon) := goodIn_app (goodIn_of _ (by decide +kernel)) ggX6_ribbon_X6_checkRibbon
set_option maxRecDepth 20000 in
theorem ggX6_ribbon_X6_checkRange : GoodIn wsX6_ribbon wsX6_checkRange := goodIn_ca (goodIn_r _ [14, 15, 16] (by decide +kernel) (by decide +kernel)) (goodIn_sub (fun _ h => List.mem_cons_of_mem _ (List.mem_append_right _ h)) (by decide +kernel))
set_option maxRecDepth 20000 in
theorem gX6_ribbon_X6_checkRange : GoodIn wsX6_ribbon (va_wsS RX6 55 yX6_checkRange wsX6_checkRange) := goodIn_app (goodIn_of _ (by decide +kernel)) ggX6_ribbon_X6_checkRange
set_option maxRecDepth 20000 in
theorem ggX6_ribbon_X0_pull : GoodIn wsX6_ribbon wsX0_pull := goodIn_r _ [21, 22, 23, 24, 25, 26, 27, 20, 28, 29, 30, 31, 32, 33, 34, 35, 36, 37, 38, 39, 40, 41, 42, 43, 44, 45, 71, 72, 73, 74, 75, 76, 77] (by decide +kernel) (by decide +kernel)
set_option maxRecDepth 20000 in
theorem gX6_ribbon_X0_pull : GoodIn wsX6_ribbon (wsV RX6 189 RX0 yX0_pull wsX0_pull) := goodIn_app (goodIn_of _ (by decide +kernel)) ggX6_ribbon_X0_pull
set_option maxRecDepth 20000 in
theorem ggX6_ribbon_X0_wouldSnap : GoodIn wsX6_ribbon wsX0_wouldSnap := goodIn_r _ [49, 50, 51, 18, 19, 20, 21, 22, 23, 24, 25, 26, 27, 28, 29, 30, 31, 32, 33, 34, 35, 36, 37, 38, 39, 40, 41, 42, 43, 44, 45, 71, 72, 73, 74, 75, 76, 77] (by decide +kernel) (by decide +kernel)
set_option maxRecDepth 20000 in
theorem gX6_ribbon_X0_wouldSnap : GoodIn wsX6_ribbon (wsV RX6 192 RX0 yX0_wouldSnap wsX0_wouldSnap) := goodIn_app (goodIn_of _ (by decide +kernel)) ggX6_ribbon_X0_wouldSnap
theorem dX6_ribbon_0 : decode cX6_ribbon 0 = .ok (.iload_n 1, 1) := by decide +kernel
theorem dX6_ribbon_1 : decode cX6_ribbon 1 = .ok (.invokestatic 82, 3) := by decide +kernel
theorem dX6_ribbon_4 : decode cX6_ribbon 4 = .ok (.iload_n 2, 1) := by decide +kernel
theorem dX6_ribbon_5 : decode cX6_ribbon 5 = .ok (.iconst 0, 1) := by decide +kernel
theorem dX6_ribbon_6 : decode cX6_ribbon 6 = .ok (.iconst 4, 1) := by decide +kernel
theorem dX6_ribbon_7 : decode cX6_ribbon 7 = .ok (.invokestatic 55, 3) := by decide +kernel
theorem dX6_ribbon_10 : decode cX6_ribbon 10 = .ok (.aload_n 0, 1) := by decide +kernel
theorem dX6_ribbon_11 : decode cX6_ribbon 11 = .ok (.getfield 12, 3) := by decide +kernel
theorem dX6_ribbon_14 : decode cX6_ribbon 14 = .ok (.getfield 62, 3) := by decide +kernel
theorem dX6_ribbon_17 : decode cX6_ribbon 17 = .ok (.astore_n 3, 1) := by decide +kernel
theorem dX6_ribbon_18 : decode cX6_ribbon 18 = .ok (.iload_n 2, 1) := by decide +kernel
theorem dX6_ribbon_19 : decode cX6_ribbon 19 = .ok (.tableswitch 64 0 3 #[29, 44, 51, 58], 29) := by decide +kernel
theorem dX6_ribbon_48 : decode cX6_ribbon 48 = .ok (.aload_n 3, 1) := by decide +kernel
theorem dX6_ribbon_49 : decode cX6_ribbon 49 = .ok (.getfield 182, 3) := by decide +kernel
theorem dX6_ribbon_52 : decode cX6_ribbon 52 = .ok (.iload_n 1, 1) := by decide +kernel
theorem dX6_ribbon_53 : decode cX6_ribbon 53 = .ok (.baload, 1) := by decide +kernel
theorem dX6_ribbon_54 : decode cX6_ribbon 54 = .ok (.ifCond .eq 7, 3) := by decide +kernel
theorem dX6_ribbon_57 : decode cX6_ribbon 57 = .ok (.iconst 1, 1) := by decide +kernel
theorem dX6_ribbon_58 : decode cX6_ribbon 58 = .ok (.goto 4, 3) := by decide +kernel
theorem dX6_ribbon_61 : decode cX6_ribbon 61 = .ok (.iconst 0, 1) := by decide +kernel
theorem dX6_ribbon_62 : decode cX6_ribbon 62 = .ok (.ireturn, 1) := by decide +kernel
theorem dX6_ribbon_63 : decode cX6_ribbon 63 = .ok (.aload_n 3, 1) := by decide +kernel
theorem dX6_ribbon_64 : decode cX6_ribbon 64 = .ok (.getfield 186, 3) := by decide +kernel
theorem dX6_ribbon_67 : decode cX6_ribbon 67 = .ok (.iload_n 1, 1) := by decide +kernel
theorem dX6_ribbon_68 : decode cX6_ribbon 68 = .ok (.iaload, 1) := by decide +kernel
theorem dX6_ribbon_69 : decode cX6_ribbon 69 = .ok (.ireturn, 1) := by decide +kernel
theorem dX6_ribbon_70 : decode cX6_ribbon 70 = .ok (.aload_n 3, 1) := by decide +kernel
theorem dX6_ribbon_71 : decode cX6_ribbon 71 = .ok (.getfield 93, 3) := by decide +kernel
theorem dX6_ribbon_74 : decode cX6_ribbon 74 = .ok (.iload_n 1, 1) := by decide +kernel
theorem dX6_ribbon_75 : decode cX6_ribbon 75 = .ok (.iaload, 1) := by decide +kernel
theorem dX6_ribbon_76 : decode cX6_ribbon 76 = .ok (.ireturn, 1) := by decide +kernel
theorem dX6_ribbon_77 : decode cX6_ribbon 77 = .ok (.aload_n 3, 1) := by decide +kernel
theorem dX6_ribbon_78 : decode cX6_ribbon 78 = .ok (.iload_n 1, 1) := by decide +kernel
theorem dX6_ribbon_79 : decode cX6_ribbon 79 = .ok (.invokevirtual 189, 3) := by decide +kernel
theorem dX6_ribbon_82 : decode cX6_ribbon 82 = .ok (.ireturn, 1) := by decide +kernel
theorem dX6_ribbon_83 : decode cX6_ribbon 83 = .ok (.aload_n 3, 1) := by decide +kernel
theorem dX6_ribbon_84 : decode cX6_ribbon 84 = .ok (.iload_n 1, 1) := by decide +kernel
theorem dX6_ribbon_85 : decode cX6_ribbon 85 = .ok (.invokevirtual 192, 3) := by decide +kernel
theorem dX6_ribbon_88 : decode cX6_ribbon 88 = .ok (.ifCond .eq 7, 3) := by decide +kernel
theorem dX6_ribbon_91 : decode cX6_ribbon 91 = .ok (.iconst 1, 1) := by decide +kernel
theorem dX6_ribbon_92 : decode cX6_ribbon 92 = .ok (.goto 4, 3) := by decide +kernel
theorem dX6_ribbon_95 : decode cX6_ribbon 95 = .ok (.iconst 0, 1) := by decide +kernel
theorem dX6_ribbon_96 : decode cX6_ribbon 96 = .ok (.ireturn, 1) := by decide +kernel
set_option maxRecDepth 20000 in
theorem ggX6_noted_X6_checkRange : GoodIn wsX6_noted wsX6_checkRange := goodIn_ca (goodIn_r _ [8, 9, 10] (by decide +kernel) (by decide +kernel)) (goodIn_sub (fun _ h => List.mem_cons_of_mem _ (List.mem_append_right _ h)) (by decide +kernel))
set_option maxRecDepth 20000 in
theorem gX6_noted_X6_checkRange : GoodIn wsX6_noted (va_wsS RX6 55 yX6_checkRange wsX6_checkRange) := goodIn_app (goodIn_of _ (by decide +kernel)) ggX6_noted_X6_checkRange
set_option maxRecDepth 20000 in
theorem ggX6_noted_X3_tell : GoodIn wsX6_noted wsX3_tell := goodIn_r _ [15, 16, 17, 18, 19, 39, 40, 41, 42] (by decide +kernel) (by decide +kernel)
set_option maxRecDepth 20000 in
theorem gX6_noted_X3_tell : GoodIn wsX6_noted (wsV RX6 204 RX3 yX3_tell wsX3_tell) := goodIn_app (goodIn_of _ (by decide +kernel)) ggX6_noted_X3_tell
theorem dX6_noted_0 : decode cX6_noted 0 = .ok (.iload_n 1, 1) := by decide +kernel
theorem dX6_noted_1 : decode cX6_noted 1 = .ok (.ifCond .ge 13, 3) := by decide +kernel
theorem dX6_noted_4 : decode cX6_noted 4 = .ok (.new 195, 3) := by decide +kernel
theorem dX6_noted_7 : decode cX6_noted 7 = .ok (.dup, 1) := by decide +kernel
theorem dX6_noted_8 : decode cX6_noted 8 = .ok (.ldc 197, 2) := by decide +kernel
theorem dX6_noted_10 : decode cX6_noted 10 = .ok (.invokespecial 199, 3) := by decide +kernel
theorem dX6_noted_13 : decode cX6_noted 13 = .ok (.athrow, 1) := by decide +kernel
theorem dX6_noted_14 : decode cX6_noted 14 = .ok (.iload_n 2, 1) := by decide +kernel
theorem dX6_noted_15 : decode cX6_noted 15 = .ok (.iconst 0, 1) := by decide +kernel
theorem dX6_noted_16 : decode cX6_noted 16 = .ok (.iconst 2, 1) := by decide +kernel
theorem dX6_noted_17 : decode cX6_noted 17 = .ok (.invokestatic 55, 3) := by decide +kernel
theorem dX6_noted_20 : decode cX6_noted 20 = .ok (.aload_n 0, 1) := by decide +kernel
theorem dX6_noted_21 : decode cX6_noted 21 = .ok (.getfield 12, 3) := by decide +kernel
theorem dX6_noted_24 : decode cX6_noted 24 = .ok (.getfield 200, 3) := by decide +kernel
theorem dX6_noted_27 : decode cX6_noted 27 = .ok (.iload_n 1, 1) := by decide +kernel
theorem dX6_noted_28 : decode cX6_noted 28 = .ok (.iload_n 2, 1) := by decide +kernel
theorem dX6_noted_29 : decode cX6_noted 29 = .ok (.invokevirtual 204, 3) := by decide +kernel
theorem dX6_noted_32 : decode cX6_noted 32 = .ok (.ireturn, 1) := by decide +kernel
set_option maxRecDepth 20000 in
theorem ggX6_count_X6_checkRange : GoodIn wsX6_count wsX6_checkRange := goodIn_ca (goodIn_r _ [16, 17, 18] (by decide +kernel) (by decide +kernel)) (goodIn_sub (fun _ h => List.mem_cons_of_mem _ (List.mem_append_right _ h)) (by decide +kernel))
set_option maxRecDepth 20000 in
theorem gX6_count_X6_checkRange : GoodIn wsX6_count (va_wsS RX6 55 yX6_checkRange wsX6_checkRange) := goodIn_app (goodIn_of _ (by decide +kernel)) ggX6_count_X6_checkRange
set_option maxRecDepth 20000 in
theorem ggX6_count_X0_allGas : GoodIn wsX6_count wsX0_allGas := goodIn_r _ [23, 24, 68, 69, 70, 71, 72, 73, 74] (by decide +kernel) (by decide +kernel)
set_option maxRecDepth 20000 in
theorem gX6_count_X0_allGas : GoodIn wsX6_count (wsV RX6 209 RX0 yX0_allGas wsX0_allGas) := goodIn_app (goodIn_of _ (by decide +kernel)) ggX6_count_X0_allGas
set_option maxRecDepth 20000 in
theorem ggX6_count_X0_tiedRibbons : GoodIn wsX6_count wsX0_tiedRibbons := goodIn_r _ [28, 29, 68, 69, 70, 71, 72, 73, 74] (by decide +kernel) (by decide +kernel)
set_option maxRecDepth 20000 in
theorem gX6_count_X0_tiedRibbons : GoodIn wsX6_count (wsV RX6 221 RX0 yX0_tiedRibbons wsX0_tiedRibbons) := goodIn_app (goodIn_of _ (by decide +kernel)) ggX6_count_X0_tiedRibbons
set_option maxRecDepth 20000 in
theorem ggX6_count_X0_allHeights : GoodIn wsX6_count wsX0_allHeights := goodIn_r _ [33, 34, 68, 69, 70, 71, 72, 73, 74] (by decide +kernel) (by decide +kernel)
set_option maxRecDepth 20000 in
theorem gX6_count_X0_allHeights : GoodIn wsX6_count (wsV RX6 89 RX0 yX0_allHeights wsX0_allHeights) := goodIn_app (goodIn_of _ (by decide +kernel)) ggX6_count_X0_allHeights
set_option maxRecDepth 20000 in
theorem ggX6_count_X0_highest : GoodIn wsX6_count wsX0_highest := goodIn_r _ [38, 34, 68, 69, 70, 71, 72, 73, 74] (by decide +kernel) (by decide +kernel)
set_option maxRecDepth 20000 in
theorem gX6_count_X0_highest : GoodIn wsX6_count (wsV RX6 224 RX0 yX0_highest wsX0_highest) := goodIn_app (goodIn_of _ (by decide +kernel)) ggX6_count_X0_highest
set_option maxRecDepth 20000 in
theorem ggX6_count_X0_grounded : GoodIn wsX6_count wsX0_grounded := goodIn_r _ [42, 34, 68, 69, 70, 71, 72, 73, 74] (by decide +kernel) (by decide +kernel)
set_option maxRecDepth 20000 in
theorem gX6_count_X0_grounded : GoodIn wsX6_count (wsV RX6 227 RX0 yX0_grounded wsX0_grounded) := goodIn_app (goodIn_of _ (by decide +kernel)) ggX6_count_X0_grounded
theorem dX6_count_0 : decode cX6_count 0 = .ok (.iload_n 1, 1) := by decide +kernel
theorem dX6_count_1 : decode cX6_count 1 = .ok (.iconst 0, 1) := by decide +kernel
theorem dX6_count_2 : decode cX6_count 2 = .ok (.bipush 14, 2) := by decide +kernel
theorem dX6_count_4 : decode cX6_count 4 = .ok (.invokestatic 55, 3) := by decide +kernel
theorem dX6_count_7 : decode cX6_count 7 = .ok (.iload_n 1, 1) := by decide +kernel
theorem dX6_count_8 : decode cX6_count 8 = .ok (.tableswitch 228 0 13 #[72, 80, 91, 119, 127, 135, 143, 154, 162, 176, 187, 198, 209, 217], 72) := by decide +kernel
theorem dX6_count_80 : decode cX6_count 80 = .ok (.aload_n 0, 1) := by decide +kernel
theorem dX6_count_81 : decode cX6_count 81 = .ok (.getfield 12, 3) := by decide +kernel
theorem dX6_count_84 : decode cX6_count 84 = .ok (.getfield 105, 3) := by decide +kernel
theorem dX6_count_87 : decode cX6_count 87 = .ok (.ireturn, 1) := by decide +kernel
theorem dX6_count_88 : decode cX6_count 88 = .ok (.aload_n 0, 1) := by decide +kernel
theorem dX6_count_89 : decode cX6_count 89 = .ok (.getfield 12, 3) := by decide +kernel
theorem dX6_count_92 : decode cX6_count 92 = .ok (.getfield 62, 3) := by decide +kernel
theorem dX6_count_95 : decode cX6_count 95 = .ok (.invokevirtual 209, 3) := by decide +kernel
theorem dX6_count_98 : decode cX6_count 98 = .ok (.ireturn, 1) := by decide +kernel
theorem dX6_count_99 : decode cX6_count 99 = .ok (.sipush 480, 3) := by decide +kernel
theorem dX6_count_102 : decode cX6_count 102 = .ok (.aload_n 0, 1) := by decide +kernel
theorem dX6_count_103 : decode cX6_count 103 = .ok (.getfield 12, 3) := by decide +kernel
theorem dX6_count_106 : decode cX6_count 106 = .ok (.getfield 212, 3) := by decide +kernel
theorem dX6_count_109 : decode cX6_count 109 = .ok (.iadd, 1) := by decide +kernel
theorem dX6_count_110 : decode cX6_count 110 = .ok (.aload_n 0, 1) := by decide +kernel
theorem dX6_count_111 : decode cX6_count 111 = .ok (.getfield 12, 3) := by decide +kernel
theorem dX6_count_114 : decode cX6_count 114 = .ok (.getfield 215, 3) := by decide +kernel
theorem dX6_count_117 : decode cX6_count 117 = .ok (.isub, 1) := by decide +kernel
theorem dX6_count_118 : decode cX6_count 118 = .ok (.aload_n 0, 1) := by decide +kernel
theorem dX6_count_119 : decode cX6_count 119 = .ok (.getfield 12, 3) := by decide +kernel
theorem dX6_count_122 : decode cX6_count 122 = .ok (.getfield 218, 3) := by decide +kernel
theorem dX6_count_125 : decode cX6_count 125 = .ok (.isub, 1) := by decide +kernel
theorem dX6_count_126 : decode cX6_count 126 = .ok (.ireturn, 1) := by decide +kernel
theorem dX6_count_127 : decode cX6_count 127 = .ok (.aload_n 0, 1) := by decide +kernel
theorem dX6_count_128 : decode cX6_count 128 = .ok (.getfield 12, 3) := by decide +kernel
theorem dX6_count_131 : decode cX6_count 131 = .ok (.getfield 212, 3) := by decide +kernel
theorem dX6_count_134 : decode cX6_count 134 = .ok (.ireturn, 1) := by decide +kernel
theorem dX6_count_135 : decode cX6_count 135 = .ok (.aload_n 0, 1) := by decide +kernel
theorem dX6_count_136 : decode cX6_count 136 = .ok (.getfield 12, 3) := by decide +kernel
theorem dX6_count_139 : decode cX6_count 139 = .ok (.getfield 215, 3) := by decide +kernel
theorem dX6_count_142 : decode cX6_count 142 = .ok (.ireturn, 1) := by decide +kernel
theorem dX6_count_143 : decode cX6_count 143 = .ok (.aload_n 0, 1) := by decide +kernel
theorem dX6_count_144 : decode cX6_count 144 = .ok (.getfield 12, 3) := by decide +kernel
theorem dX6_count_147 : decode cX6_count 147 = .ok (.getfield 218, 3) := by decide +kernel
theorem dX6_count_150 : decode cX6_count 150 = .ok (.ireturn, 1) := by decide +kernel
theorem dX6_count_151 : decode cX6_count 151 = .ok (.aload_n 0, 1) := by decide +kernel
theorem dX6_count_152 : decode cX6_count 152 = .ok (.getfield 12, 3) := by decide +kernel
theorem dX6_count_155 : decode cX6_count 155 = .ok (.getfield 62, 3) := by decide +kernel
theorem dX6_count_158 : decode cX6_count 158 = .ok (.invokevirtual 221, 3) := by decide +kernel
theorem dX6_count_161 : decode cX6_count 161 = .ok (.ireturn, 1) := by decide +kernel
theorem dX6_count_162 : decode cX6_count 162 = .ok (.aload_n 0, 1) := by decide +kernel
theorem dX6_count_163 : decode cX6_count 163 = .ok (.getfield 12, 3) := by decide +kernel
theorem dX6_count_166 : decode cX6_count 166 = .ok (.getfield 112, 3) := by decide +kernel
theorem dX6_count_169 : decode cX6_count 169 = .ok (.ireturn, 1) := by decide +kernel
theorem dX6_count_170 : decode cX6_count 170 = .ok (.bipush 8, 2) := by decide +kernel
theorem dX6_count_172 : decode cX6_count 172 = .ok (.aload_n 0, 1) := by decide +kernel
theorem dX6_count_173 : decode cX6_count 173 = .ok (.getfield 12, 3) := by decide +kernel
theorem dX6_count_176 : decode cX6_count 176 = .ok (.getfield 62, 3) := by decide +kernel
theorem dX6_count_179 : decode cX6_count 179 = .ok (.invokevirtual 221, 3) := by decide +kernel
theorem dX6_count_182 : decode cX6_count 182 = .ok (.isub, 1) := by decide +kernel
theorem dX6_count_183 : decode cX6_count 183 = .ok (.ireturn, 1) := by decide +kernel
theorem dX6_count_184 : decode cX6_count 184 = .ok (.aload_n 0, 1) := by decide +kernel
theorem dX6_count_185 : decode cX6_count 185 = .ok (.getfield 12, 3) := by decide +kernel
theorem dX6_count_188 : decode cX6_count 188 = .ok (.getfield 62, 3) := by decide +kernel
theorem dX6_count_191 : decode cX6_count 191 = .ok (.invokevirtual 89, 3) := by decide +kernel
theorem dX6_count_194 : decode cX6_count 194 = .ok (.ireturn, 1) := by decide +kernel
theorem dX6_count_195 : decode cX6_count 195 = .ok (.aload_n 0, 1) := by decide +kernel
theorem dX6_count_196 : decode cX6_count 196 = .ok (.getfield 12, 3) := by decide +kernel
theorem dX6_count_199 : decode cX6_count 199 = .ok (.getfield 62, 3) := by decide +kernel
theorem dX6_count_202 : decode cX6_count 202 = .ok (.invokevirtual 224, 3) := by decide +kernel
theorem dX6_count_205 : decode cX6_count 205 = .ok (.ireturn, 1) := by decide +kernel
theorem dX6_count_206 : decode cX6_count 206 = .ok (.aload_n 0, 1) := by decide +kernel
theorem dX6_count_207 : decode cX6_count 207 = .ok (.getfield 12, 3) := by decide +kernel
theorem dX6_count_210 : decode cX6_count 210 = .ok (.getfield 62, 3) := by decide +kernel
theorem dX6_count_213 : decode cX6_count 213 = .ok (.invokevirtual 227, 3) := by decide +kernel
theorem dX6_count_216 : decode cX6_count 216 = .ok (.ireturn, 1) := by decide +kernel
theorem dX6_count_217 : decode cX6_count 217 = .ok (.aload_n 0, 1) := by decide +kernel
theorem dX6_count_218 : decode cX6_count 218 = .ok (.getfield 12, 3) := by decide +kernel
theorem dX6_count_221 : decode cX6_count 221 = .ok (.getfield 230, 3) := by decide +kernel
theorem dX6_count_224 : decode cX6_count 224 = .ok (.ireturn, 1) := by decide +kernel
theorem dX6_count_225 : decode cX6_count 225 = .ok (.aload_n 0, 1) := by decide +kernel
theorem dX6_count_226 : decode cX6_count 226 = .ok (.getfield 12, 3) := by decide +kernel
theorem dX6_count_229 : decode cX6_count 229 = .ok (.getfield 200, 3) := by decide +kernel
theorem dX6_count_232 : decode cX6_count 232 = .ok (.getfield 233, 3) := by decide +kernel
theorem dX6_count_235 : decode cX6_count 235 = .ok (.ireturn, 1) := by decide +kernel
theorem dX6_count_236 : decode cX6_count 236 = .ok (.aload_n 0, 1) := by decide +kernel
theorem dX6_count_237 : decode cX6_count 237 = .ok (.getfield 26, 3) := by decide +kernel
theorem dX6_count_240 : decode cX6_count 240 = .ok (.getfield 162, 3) := by decide +kernel
theorem dX6_count_243 : decode cX6_count 243 = .ok (.ireturn, 1) := by decide +kernel
set_option maxRecDepth 20000 in
theorem ggX6_why_X6_checkBalloon : GoodIn wsX6_why wsX6_checkBalloon := goodIn_ca (goodIn_r _ [6, 7, 8] (by decide +kernel) (by decide +kernel)) (goodIn_sub (fun _ h => List.mem_cons_of_mem _ (List.mem_append_left _ (List.mem_append_right _ h))) (by decide +kernel))
set_option maxRecDepth 20000 in
theorem gX6_why_X6_checkBalloon : GoodIn wsX6_why (va_wsS RX6 51 yX6_checkBalloon wsX6_checkBalloon) := goodIn_app (goodIn_of _ (by decide +kernel)) ggX6_why_X6_checkBalloon
set_option maxRecDepth 20000 in
theorem ggX6_why_X6_checkRibbon : GoodIn wsX6_why wsX6_checkRibbon := goodIn_ca (goodIn_r _ [11, 7, 8] (by decide +kernel) (by decide +kernel)) (goodIn_sub (fun _ h => List.mem_cons_of_mem _ (List.mem_append_left _ (List.mem_append_right _ h))) (by decide +kernel))
set_option maxRecDepth 20000 in
theorem gX6_why_X6_checkRibbon : GoodIn wsX6_why (va_wsS RX6 82 yX6_checkRibbon wsX6_checkRibbon) := goodIn_app (goodIn_of _ (by decide +kernel)) ggX6_why_X6_checkRibbon
set_option maxRecDepth 20000 in
theorem ggX6_why_X6_checkRange : GoodIn wsX6_why wsX6_checkRange := goodIn_ca (goodIn_r _ [14, 15, 16] (by decide +kernel) (by decide +kernel)) (goodIn_sub (fun _ h => List.mem_cons_of_mem _ (List.mem_append_right _ h)) (by decide +kernel))
set_option maxRecDepth 20000 in
theorem gX6_why_X6_checkRange : GoodIn wsX6_why (va_wsS RX6 55 yX6_checkRange wsX6_checkRange) := goodIn_app (goodIn_of _ (by decide +kernel)) ggX6_why_X6_checkRange
set_option maxRecDepth 20000 in
theorem ggX6_why_X0_whyNot : GoodIn wsX6_why wsX0_whyNot := goodIn_r _ [21, 22, 23, 24, 25, 26, 27, 28, 20, 29, 30, 31, 32, 33, 53, 54, 55, 56, 57, 58, 59] (by decide +kernel) (by decide +kernel)
set_option maxRecDepth 20000 in
theorem gX6_why_X0_whyNot : GoodIn wsX6_why (wsV RX6 234 RX0 yX0_whyNot wsX0_whyNot) := goodIn_app (goodIn_of _ (by decide +kernel)) ggX6_why_X0_whyNot
theorem dX6_why_0 : decode cX6_why 0 = .ok (.iload_n 1, 1) := by decide +kernel
theorem dX6_why_1 : decode cX6_why 1 = .ok (.invokestatic 51, 3) := by decide +kernel
theorem dX6_why_4 : decode cX6_why 4 = .ok (.iload_n 2, 1) := by decide +kernel
theorem dX6_why_5 : decode cX6_why 5 = .ok (.iconst 4, 1) := by decide +kernel
theorem dX6_why_6 : decode cX6_why 6 = .ok (.if_icmp .eq 8, 3) := by decide +kernel
theorem dX6_why_9 : decode cX6_why 9 = .ok (.iload_n 2, 1) := by decide +kernel
theorem dX6_why_10 : decode cX6_why 10 = .ok (.iconst 5, 1) := by decide +kernel
theorem dX6_why_11 : decode cX6_why 11 = .ok (.if_icmp .ne 7, 3) := by decide +kernel
theorem dX6_why_14 : decode cX6_why 14 = .ok (.iload_n 1, 1) := by decide +kernel
theorem dX6_why_15 : decode cX6_why 15 = .ok (.invokestatic 82, 3) := by decide +kernel
theorem dX6_why_18 : decode cX6_why 18 = .ok (.iload_n 2, 1) := by decide +kernel
theorem dX6_why_19 : decode cX6_why 19 = .ok (.iconst 0, 1) := by decide +kernel
theorem dX6_why_20 : decode cX6_why 20 = .ok (.iconst 5, 1) := by decide +kernel
theorem dX6_why_21 : decode cX6_why 21 = .ok (.invokestatic 55, 3) := by decide +kernel
theorem dX6_why_24 : decode cX6_why 24 = .ok (.aload_n 0, 1) := by decide +kernel
theorem dX6_why_25 : decode cX6_why 25 = .ok (.getfield 12, 3) := by decide +kernel
theorem dX6_why_28 : decode cX6_why 28 = .ok (.getfield 62, 3) := by decide +kernel
theorem dX6_why_31 : decode cX6_why 31 = .ok (.iload_n 2, 1) := by decide +kernel
theorem dX6_why_32 : decode cX6_why 32 = .ok (.iload_n 1, 1) := by decide +kernel
theorem dX6_why_33 : decode cX6_why 33 = .ok (.iload_n 2, 1) := by decide +kernel
theorem dX6_why_34 : decode cX6_why 34 = .ok (.iconst 4, 1) := by decide +kernel
theorem dX6_why_35 : decode cX6_why 35 = .ok (.if_icmp .ne 8, 3) := by decide +kernel
theorem dX6_why_38 : decode cX6_why 38 = .ok (.bipush 100, 2) := by decide +kernel
theorem dX6_why_40 : decode cX6_why 40 = .ok (.goto 4, 3) := by decide +kernel
theorem dX6_why_43 : decode cX6_why 43 = .ok (.iconst 1, 1) := by decide +kernel
theorem dX6_why_44 : decode cX6_why 44 = .ok (.invokevirtual 234, 3) := by decide +kernel
theorem dX6_why_47 : decode cX6_why 47 = .ok (.ireturn, 1) := by decide +kernel
set_option maxRecDepth 20000 in
theorem ggX6_stopped_X6_checkRange : GoodIn wsX6_stopped wsX6_checkRange := goodIn_ca (goodIn_r _ [7, 8, 9] (by decide +kernel) (by decide +kernel)) (goodIn_sub (fun _ h => List.mem_cons_of_mem _ (List.mem_append_right _ h)) (by decide +kernel))
set_option maxRecDepth 20000 in
theorem gX6_stopped_X6_checkRange : GoodIn wsX6_stopped (va_wsS RX6 55 yX6_checkRange wsX6_checkRange) := goodIn_app (goodIn_of _ (by decide +kernel)) ggX6_stopped_X6_checkRange
theorem dX6_stopped_0 : decode cX6_stopped 0 = .ok (.iload_n 1, 1) := by decide +kernel
theorem dX6_stopped_1 : decode cX6_stopped 1 = .ok (.iconst 0, 1) := by decide +kernel
theorem dX6_stopped_2 : decode cX6_stopped 2 = .ok (.iconst 1, 1) := by decide +kernel
theorem dX6_stopped_3 : decode cX6_stopped 3 = .ok (.invokestatic 55, 3) := by decide +kernel
theorem dX6_stopped_6 : decode cX6_stopped 6 = .ok (.iload_n 1, 1) := by decide +kernel
theorem dX6_stopped_7 : decode cX6_stopped 7 = .ok (.ifCond .ne 13, 3) := by decide +kernel
theorem dX6_stopped_10 : decode cX6_stopped 10 = .ok (.aload_n 0, 1) := by decide +kernel
theorem dX6_stopped_11 : decode cX6_stopped 11 = .ok (.getfield 12, 3) := by decide +kernel
theorem dX6_stopped_14 : decode cX6_stopped 14 = .ok (.getfield 143, 3) := by decide +kernel
theorem dX6_stopped_17 : decode cX6_stopped 17 = .ok (.goto 10, 3) := by decide +kernel
theorem dX6_stopped_20 : decode cX6_stopped 20 = .ok (.aload_n 0, 1) := by decide +kernel
theorem dX6_stopped_21 : decode cX6_stopped 21 = .ok (.getfield 12, 3) := by decide +kernel
theorem dX6_stopped_24 : decode cX6_stopped 24 = .ok (.getfield 146, 3) := by decide +kernel
theorem dX6_stopped_27 : decode cX6_stopped 27 = .ok (.ireturn, 1) := by decide +kernel
set_option maxRecDepth 20000 in
theorem ggX6_ifDropped_X6_checkBalloon : GoodIn wsX6_ifDropped wsX6_checkBalloon := goodIn_ca (goodIn_r _ [9, 10, 11] (by decide +kernel) (by decide +kernel)) (goodIn_sub (fun _ h => List.mem_cons_of_mem _ (List.mem_append_left _ (List.mem_append_right _ h))) (by decide +kernel))
set_option maxRecDepth 20000 in
theorem gX6_ifDropped_X6_checkBalloon : GoodIn wsX6_ifDropped (va_wsS RX6 51 yX6_checkBalloon wsX6_checkBalloon) := goodIn_app (goodIn_of _ (by decide +kernel)) ggX6_ifDropped_X6_checkBalloon
set_option maxRecDepth 20000 in
theorem ggX6_ifDropped_X6_checkRange : GoodIn wsX6_ifDropped wsX6_checkRange := goodIn_ca (goodIn_r _ [14, 15, 16] (by decide +kernel) (by decide +kernel)) (goodIn_sub (fun _ h => List.mem_cons_of_mem _ (List.mem_append_right _ h)) (by decide +kernel))
set_option maxRecDepth 20000 in
theorem gX6_ifDropped_X6_checkRange : GoodIn wsX6_ifDropped (va_wsS RX6 55 yX6_checkRange wsX6_checkRange) := goodIn_app (goodIn_of _ (by decide +kernel)) ggX6_ifDropped_X6_checkRange
set_option maxRecDepth 20000 in
theorem ggX6_ifDropped_X0_copyFrom : GoodIn wsX6_ifDropped wsX0_copyFrom := goodIn_r _ [21, 22, 23, 24, 25, 26, 27, 28, 29, 30, 31, 32, 95, 96, 97, 98, 99, 100, 101] (by decide +kernel) (by decide +kernel)
set_option maxRecDepth 20000 in
theorem gX6_ifDropped_X0_copyFrom : GoodIn wsX6_ifDropped (wsV RX6 238 RX0 yX0_copyFrom wsX0_copyFrom) := goodIn_app (goodIn_of _ (by decide +kernel)) ggX6_ifDropped_X0_copyFrom
set_option maxRecDepth 20000 in
theorem ggX6_ifDropped_X0_mendHeights : GoodIn wsX6_ifDropped wsX0_mendHeights := goodIn_r _ [36, 32, 37, 38, 39, 20, 40, 41, 42, 43, 44, 45, 46, 47, 48, 49, 50, 51, 22, 27, 52, 53, 54, 55, 29, 30, 95, 96, 97, 98, 99, 100, 101] (by decide +kernel) (by decide +kernel)
set_option maxRecDepth 20000 in
theorem gX6_ifDropped_X0_mendHeights : GoodIn wsX6_ifDropped (wsV RX6 241 RX0 yX0_mendHeights wsX0_mendHeights) := goodIn_app (goodIn_of _ (by decide +kernel)) ggX6_ifDropped_X0_mendHeights
set_option maxRecDepth 20000 in
theorem ggX6_ifDropped_X0_allHeights : GoodIn wsX6_ifDropped wsX0_allHeights := goodIn_r _ [59, 32, 95, 96, 97, 98, 99, 100, 101] (by decide +kernel) (by decide +kernel)
set_option maxRecDepth 20000 in
theorem gX6_ifDropped_X0_allHeights : GoodIn wsX6_ifDropped (wsV RX6 89 RX0 yX0_allHeights wsX0_allHeights) := goodIn_app (goodIn_of _ (by decide +kernel)) ggX6_ifDropped_X0_allHeights
set_option maxRecDepth 20000 in
theorem ggX6_ifDropped_X0_ribbonsThatWouldSnap : GoodIn wsX6_ifDropped wsX0_ribbonsThatWouldSnap := goodIn_r _ [63, 64, 65, 66, 20, 67, 31, 68, 69, 70, 71, 29, 32, 30, 72, 73, 74, 75, 37, 38, 39, 40, 41, 42, 43, 44, 45, 46, 47, 48, 49, 50, 51, 22, 27, 95, 96, 97, 98, 99, 100, 101] (by decide +kernel) (by decide +kernel)
set_option maxRecDepth 20000 in
theorem gX6_ifDropped_X0_ribbonsThatWouldSnap : GoodIn wsX6_ifDropped (wsV RX6 244 RX0 yX0_ribbonsThatWouldSnap wsX0_ribbonsThatWouldSnap) := goodIn_app (goodIn_of _ (by decide +kernel)) ggX6_ifDropped_X0_ribbonsThatWouldSnap
theorem dX6_ifDropped_0 : decode cX6_ifDropped 0 = .ok (.iload_n 1, 1) := by decide +kernel
theorem dX6_ifDropped_1 : decode cX6_ifDropped 1 = .ok (.invokestatic 51, 3) := by decide +kernel
theorem dX6_ifDropped_4 : decode cX6_ifDropped 4 = .ok (.iload_n 2, 1) := by decide +kernel
theorem dX6_ifDropped_5 : decode cX6_ifDropped 5 = .ok (.iconst 0, 1) := by decide +kernel
theorem dX6_ifDropped_6 : decode cX6_ifDropped 6 = .ok (.iconst 2, 1) := by decide +kernel
theorem dX6_ifDropped_7 : decode cX6_ifDropped 7 = .ok (.invokestatic 55, 3) := by decide +kernel
theorem dX6_ifDropped_10 : decode cX6_ifDropped 10 = .ok (.aload_n 0, 1) := by decide +kernel
theorem dX6_ifDropped_11 : decode cX6_ifDropped 11 = .ok (.getfield 12, 3) := by decide +kernel
theorem dX6_ifDropped_14 : decode cX6_ifDropped 14 = .ok (.getfield 62, 3) := by decide +kernel
theorem dX6_ifDropped_17 : decode cX6_ifDropped 17 = .ok (.getfield 72, 3) := by decide +kernel
theorem dX6_ifDropped_20 : decode cX6_ifDropped 20 = .ok (.iload_n 1, 1) := by decide +kernel
theorem dX6_ifDropped_21 : decode cX6_ifDropped 21 = .ok (.iaload, 1) := by decide +kernel
theorem dX6_ifDropped_22 : decode cX6_ifDropped 22 = .ok (.ifCond .ne 7, 3) := by decide +kernel
theorem dX6_ifDropped_25 : decode cX6_ifDropped 25 = .ok (.sipush (-1000), 3) := by decide +kernel
theorem dX6_ifDropped_28 : decode cX6_ifDropped 28 = .ok (.ireturn, 1) := by decide +kernel
theorem dX6_ifDropped_29 : decode cX6_ifDropped 29 = .ok (.aload_n 0, 1) := by decide +kernel
theorem dX6_ifDropped_30 : decode cX6_ifDropped 30 = .ok (.getfield 40, 3) := by decide +kernel
theorem dX6_ifDropped_33 : decode cX6_ifDropped 33 = .ok (.aload_n 0, 1) := by decide +kernel
theorem dX6_ifDropped_34 : decode cX6_ifDropped 34 = .ok (.getfield 12, 3) := by decide +kernel
theorem dX6_ifDropped_37 : decode cX6_ifDropped 37 = .ok (.getfield 62, 3) := by decide +kernel
theorem dX6_ifDropped_40 : decode cX6_ifDropped 40 = .ok (.invokevirtual 238, 3) := by decide +kernel
theorem dX6_ifDropped_43 : decode cX6_ifDropped 43 = .ok (.aload_n 0, 1) := by decide +kernel
theorem dX6_ifDropped_44 : decode cX6_ifDropped 44 = .ok (.getfield 40, 3) := by decide +kernel
theorem dX6_ifDropped_47 : decode cX6_ifDropped 47 = .ok (.getfield 72, 3) := by decide +kernel
theorem dX6_ifDropped_50 : decode cX6_ifDropped 50 = .ok (.iload_n 1, 1) := by decide +kernel
theorem dX6_ifDropped_51 : decode cX6_ifDropped 51 = .ok (.dup2, 1) := by decide +kernel
theorem dX6_ifDropped_52 : decode cX6_ifDropped 52 = .ok (.iaload, 1) := by decide +kernel
theorem dX6_ifDropped_53 : decode cX6_ifDropped 53 = .ok (.iconst 1, 1) := by decide +kernel
theorem dX6_ifDropped_54 : decode cX6_ifDropped 54 = .ok (.isub, 1) := by decide +kernel
theorem dX6_ifDropped_55 : decode cX6_ifDropped 55 = .ok (.iastore, 1) := by decide +kernel
theorem dX6_ifDropped_56 : decode cX6_ifDropped 56 = .ok (.aload_n 0, 1) := by decide +kernel
theorem dX6_ifDropped_57 : decode cX6_ifDropped 57 = .ok (.getfield 40, 3) := by decide +kernel
theorem dX6_ifDropped_60 : decode cX6_ifDropped 60 = .ok (.invokevirtual 241, 3) := by decide +kernel
theorem dX6_ifDropped_63 : decode cX6_ifDropped 63 = .ok (.iload_n 2, 1) := by decide +kernel
theorem dX6_ifDropped_64 : decode cX6_ifDropped 64 = .ok (.lookupswitch 46 #[(0, 28), (1, 38)], 28) := by decide +kernel
theorem dX6_ifDropped_92 : decode cX6_ifDropped 92 = .ok (.aload_n 0, 1) := by decide +kernel
theorem dX6_ifDropped_93 : decode cX6_ifDropped 93 = .ok (.getfield 40, 3) := by decide +kernel
theorem dX6_ifDropped_96 : decode cX6_ifDropped 96 = .ok (.getfield 69, 3) := by decide +kernel
theorem dX6_ifDropped_99 : decode cX6_ifDropped 99 = .ok (.iload_n 1, 1) := by decide +kernel
theorem dX6_ifDropped_100 : decode cX6_ifDropped 100 = .ok (.iaload, 1) := by decide +kernel
theorem dX6_ifDropped_101 : decode cX6_ifDropped 101 = .ok (.ireturn, 1) := by decide +kernel
theorem dX6_ifDropped_102 : decode cX6_ifDropped 102 = .ok (.aload_n 0, 1) := by decide +kernel
theorem dX6_ifDropped_103 : decode cX6_ifDropped 103 = .ok (.getfield 40, 3) := by decide +kernel
theorem dX6_ifDropped_106 : decode cX6_ifDropped 106 = .ok (.invokevirtual 89, 3) := by decide +kernel
theorem dX6_ifDropped_109 : decode cX6_ifDropped 109 = .ok (.ireturn, 1) := by decide +kernel
theorem dX6_ifDropped_110 : decode cX6_ifDropped 110 = .ok (.aload_n 0, 1) := by decide +kernel
theorem dX6_ifDropped_111 : decode cX6_ifDropped 111 = .ok (.getfield 40, 3) := by decide +kernel
theorem dX6_ifDropped_114 : decode cX6_ifDropped 114 = .ok (.invokevirtual 244, 3) := by decide +kernel
theorem dX6_ifDropped_117 : decode cX6_ifDropped 117 = .ok (.ireturn, 1) := by decide +kernel
set_option maxRecDepth 20000 in
theorem ggX6_landsIn_X6_checkBalloon : GoodIn wsX6_landsIn wsX6_checkBalloon := goodIn_ca (goodIn_r _ [8, 9, 10] (by decide +kernel) (by decide +kernel)) (goodIn_sub (fun _ h => List.mem_cons_of_mem _ (List.mem_append_right _ h)) (by decide +kernel))
set_option maxRecDepth 20000 in
theorem gX6_landsIn_X6_checkBalloon : GoodIn wsX6_landsIn (va_wsS RX6 51 yX6_checkBalloon wsX6_checkBalloon) := goodIn_app (goodIn_of _ (by decide +kernel)) ggX6_landsIn_X6_checkBalloon
set_option maxRecDepth 20000 in
theorem ggX6_landsIn_X1_lookAhead : GoodIn wsX6_landsIn wsX1_lookAhead := goodIn_r _ [15, 16, 17, 18, 19, 20, 21, 22, 23, 24, 25, 26, 27, 28, 29, 30, 31, 32, 33, 34, 35, 36, 37, 38, 39, 40, 41, 14, 42, 43, 44, 45, 46, 47, 48, 49, 50, 51, 52, 53, 54, 55, 56, 57, 58, 59, 60, 61, 62, 63, 64, 65, 66, 67, 68, 69, 70, 71, 72, 73, 74, 75, 76, 77, 78, 79, 80, 81, 82, 102, 103, 104, 105, 106, 107, 108, 109, 110, 111] (by decide +kernel) (by decide +kernel)
set_option maxRecDepth 20000 in
theorem gX6_landsIn_X1_lookAhead : GoodIn wsX6_landsIn (wsV RX6 247 RX1 yX1_lookAhead wsX1_lookAhead) := goodIn_app (goodIn_of _ (by decide +kernel)) ggX6_landsIn_X1_lookAhead
theorem dX6_landsIn_0 : decode cX6_landsIn 0 = .ok (.iload_n 1, 1) := by decide +kernel
theorem dX6_landsIn_1 : decode cX6_landsIn 1 = .ok (.invokestatic 51, 3) := by decide +kernel
theorem dX6_landsIn_4 : decode cX6_landsIn 4 = .ok (.aload_n 0, 1) := by decide +kernel
theorem dX6_landsIn_5 : decode cX6_landsIn 5 = .ok (.getfield 47, 3) := by decide +kernel
theorem dX6_landsIn_8 : decode cX6_landsIn 8 = .ok (.aload_n 0, 1) := by decide +kernel
theorem dX6_landsIn_9 : decode cX6_landsIn 9 = .ok (.getfield 12, 3) := by decide +kernel
theorem dX6_landsIn_12 : decode cX6_landsIn 12 = .ok (.getfield 62, 3) := by decide +kernel
theorem dX6_landsIn_15 : decode cX6_landsIn 15 = .ok (.invokevirtual 247, 3) := by decide +kernel
theorem dX6_landsIn_18 : decode cX6_landsIn 18 = .ok (.aload_n 0, 1) := by decide +kernel
theorem dX6_landsIn_19 : decode cX6_landsIn 19 = .ok (.getfield 47, 3) := by decide +kernel
theorem dX6_landsIn_22 : decode cX6_landsIn 22 = .ok (.getfield 250, 3) := by decide +kernel
theorem dX6_landsIn_25 : decode cX6_landsIn 25 = .ok (.iload_n 1, 1) := by decide +kernel
theorem dX6_landsIn_26 : decode cX6_landsIn 26 = .ok (.iaload, 1) := by decide +kernel
theorem dX6_landsIn_27 : decode cX6_landsIn 27 = .ok (.ireturn, 1) := by decide +kernel
set_option maxRecDepth 20000 in
theorem ggX6_snapsIn_X1_lookAhead : GoodIn wsX6_snapsIn wsX1_lookAhead := goodIn_r _ [9, 10, 11, 12, 13, 14, 15, 16, 17, 18, 19, 20, 21, 22, 23, 24, 25, 26, 27, 28, 29, 30, 31, 32, 33, 34, 35, 8, 36, 37, 38, 39, 40, 41, 42, 43, 44, 45, 46, 47, 48, 49, 50, 51, 52, 53, 54, 55, 56, 57, 58, 59, 60, 61, 62, 63, 64, 65, 66, 67, 68, 69, 70, 71, 72, 73, 74, 75, 76, 96, 97, 98, 99, 100, 101, 102, 103, 104, 105] (by decide +kernel) (by decide +kernel)
set_option maxRecDepth 20000 in
theorem gX6_snapsIn_X1_lookAhead : GoodIn wsX6_snapsIn (wsV RX6 247 RX1 yX1_lookAhead wsX1_lookAhead) := goodIn_app (goodIn_of _ (by decide +kernel)) ggX6_snapsIn_X1_lookAhead
theorem dX6_snapsIn_0 : decode cX6_snapsIn 0 = .ok (.aload_n 0, 1) := by decide +kernel
theorem dX6_snapsIn_1 : decode cX6_snapsIn 1 = .ok (.getfield 47, 3) := by decide +kernel
theorem dX6_snapsIn_4 : decode cX6_snapsIn 4 = .ok (.aload_n 0, 1) := by decide +kernel
theorem dX6_snapsIn_5 : decode cX6_snapsIn 5 = .ok (.getfield 12, 3) := by decide +kernel
theorem dX6_snapsIn_8 : decode cX6_snapsIn 8 = .ok (.getfield 62, 3) := by decide +kernel
theorem dX6_snapsIn_11 : decode cX6_snapsIn 11 = .ok (.invokevirtual 247, 3) := by decide +kernel
theorem dX6_snapsIn_14 : decode cX6_snapsIn 14 = .ok (.aload_n 0, 1) := by decide +kernel
theorem dX6_snapsIn_15 : decode cX6_snapsIn 15 = .ok (.getfield 47, 3) := by decide +kernel
theorem dX6_snapsIn_18 : decode cX6_snapsIn 18 = .ok (.getfield 253, 3) := by decide +kernel
theorem dX6_snapsIn_21 : decode cX6_snapsIn 21 = .ok (.ireturn, 1) := by decide +kernel
set_option maxRecDepth 20000 in
theorem ggX6_meanHeight_X0_allHeights : GoodIn wsX6_meanHeight wsX0_allHeights := goodIn_r _ [8, 9, 29, 30, 31, 32, 33, 34, 35] (by decide +kernel) (by decide +kernel)
set_option maxRecDepth 20000 in
theorem gX6_meanHeight_X0_allHeights : GoodIn wsX6_meanHeight (wsV RX6 89 RX0 yX0_allHeights wsX0_allHeights) := goodIn_app (goodIn_of _ (by decide +kernel)) ggX6_meanHeight_X0_allHeights
theorem dX6_meanHeight_0 : decode cX6_meanHeight 0 = .ok (.aload_n 0, 1) := by decide +kernel
theorem dX6_meanHeight_1 : decode cX6_meanHeight 1 = .ok (.getfield 12, 3) := by decide +kernel
theorem dX6_meanHeight_4 : decode cX6_meanHeight 4 = .ok (.getfield 62, 3) := by decide +kernel
theorem dX6_meanHeight_7 : decode cX6_meanHeight 7 = .ok (.invokevirtual 89, 3) := by decide +kernel
theorem dX6_meanHeight_10 : decode cX6_meanHeight 10 = .ok (.i2d, 1) := by decide +kernel
theorem dX6_meanHeight_11 : decode cX6_meanHeight 11 = .ok (.ldc2_w 259, 3) := by decide +kernel
theorem dX6_meanHeight_14 : decode cX6_meanHeight 14 = .ok (.ddiv, 1) := by decide +kernel
theorem dX6_meanHeight_15 : decode cX6_meanHeight 15 = .ok (.dreturn, 1) := by decide +kernel
theorem dX6_lostShare_0 : decode cX6_lostShare 0 = .ok (.aload_n 0, 1) := by decide +kernel
theorem dX6_lostShare_1 : decode cX6_lostShare 1 = .ok (.getfield 12, 3) := by decide +kernel
theorem dX6_lostShare_4 : decode cX6_lostShare 4 = .ok (.getfield 215, 3) := by decide +kernel
theorem dX6_lostShare_7 : decode cX6_lostShare 7 = .ok (.aload_n 0, 1) := by decide +kernel
theorem dX6_lostShare_8 : decode cX6_lostShare 8 = .ok (.getfield 12, 3) := by decide +kernel
theorem dX6_lostShare_11 : decode cX6_lostShare 11 = .ok (.getfield 218, 3) := by decide +kernel
theorem dX6_lostShare_14 : decode cX6_lostShare 14 = .ok (.iadd, 1) := by decide +kernel
theorem dX6_lostShare_15 : decode cX6_lostShare 15 = .ok (.i2f, 1) := by decide +kernel
theorem dX6_lostShare_16 : decode cX6_lostShare 16 = .ok (.sipush 480, 3) := by decide +kernel
theorem dX6_lostShare_19 : decode cX6_lostShare 19 = .ok (.aload_n 0, 1) := by decide +kernel
theorem dX6_lostShare_20 : decode cX6_lostShare 20 = .ok (.getfield 12, 3) := by decide +kernel
theorem dX6_lostShare_23 : decode cX6_lostShare 23 = .ok (.getfield 212, 3) := by decide +kernel
theorem dX6_lostShare_26 : decode cX6_lostShare 26 = .ok (.iadd, 1) := by decide +kernel
theorem dX6_lostShare_27 : decode cX6_lostShare 27 = .ok (.i2f, 1) := by decide +kernel
theorem dX6_lostShare_28 : decode cX6_lostShare 28 = .ok (.fdiv, 1) := by decide +kernel
theorem dX6_lostShare_29 : decode cX6_lostShare 29 = .ok (.freturn, 1) := by decide +kernel
theorem dX6_checkBalloon_0 : decode cX6_checkBalloon 0 = .ok (.iload_n 0, 1) := by decide +kernel
theorem dX6_checkBalloon_1 : decode cX6_checkBalloon 1 = .ok (.ifCond .lt 9, 3) := by decide +kernel
theorem dX6_checkBalloon_4 : decode cX6_checkBalloon 4 = .ok (.iload_n 0, 1) := by decide +kernel
theorem dX6_checkBalloon_5 : decode cX6_checkBalloon 5 = .ok (.bipush 8, 2) := by decide +kernel
theorem dX6_checkBalloon_7 : decode cX6_checkBalloon 7 = .ok (.if_icmp .lt 14, 3) := by decide +kernel
theorem dX6_checkBalloon_10 : decode cX6_checkBalloon 10 = .ok (.new 195, 3) := by decide +kernel
theorem dX6_checkBalloon_13 : decode cX6_checkBalloon 13 = .ok (.dup, 1) := by decide +kernel
theorem dX6_checkBalloon_14 : decode cX6_checkBalloon 14 = .ok (.ldc_w 303, 3) := by decide +kernel
theorem dX6_checkBalloon_17 : decode cX6_checkBalloon 17 = .ok (.invokespecial 199, 3) := by decide +kernel
theorem dX6_checkBalloon_20 : decode cX6_checkBalloon 20 = .ok (.athrow, 1) := by decide +kernel
theorem dX6_checkBalloon_21 : decode cX6_checkBalloon 21 = .ok (.return_, 1) := by decide +kernel
theorem dX6_checkRibbon_0 : decode cX6_checkRibbon 0 = .ok (.iload_n 0, 1) := by decide +kernel
theorem dX6_checkRibbon_1 : decode cX6_checkRibbon 1 = .ok (.ifCond .lt 9, 3) := by decide +kernel
theorem dX6_checkRibbon_4 : decode cX6_checkRibbon 4 = .ok (.iload_n 0, 1) := by decide +kernel
theorem dX6_checkRibbon_5 : decode cX6_checkRibbon 5 = .ok (.bipush 7, 2) := by decide +kernel
theorem dX6_checkRibbon_7 : decode cX6_checkRibbon 7 = .ok (.if_icmp .lt 14, 3) := by decide +kernel
theorem dX6_checkRibbon_10 : decode cX6_checkRibbon 10 = .ok (.new 195, 3) := by decide +kernel
theorem dX6_checkRibbon_13 : decode cX6_checkRibbon 13 = .ok (.dup, 1) := by decide +kernel
theorem dX6_checkRibbon_14 : decode cX6_checkRibbon 14 = .ok (.ldc_w 305, 3) := by decide +kernel
theorem dX6_checkRibbon_17 : decode cX6_checkRibbon 17 = .ok (.invokespecial 199, 3) := by decide +kernel
theorem dX6_checkRibbon_20 : decode cX6_checkRibbon 20 = .ok (.athrow, 1) := by decide +kernel
theorem dX6_checkRibbon_21 : decode cX6_checkRibbon 21 = .ok (.return_, 1) := by decide +kernel
theorem dX6_checkRange_0 : decode cX6_checkRange 0 = .ok (.iload_n 0, 1) := by decide +kernel
theorem dX6_checkRange_1 : decode cX6_checkRange 1 = .ok (.iload_n 1, 1) := by decide +kernel
theorem dX6_checkRange_2 : decode cX6_checkRange 2 = .ok (.if_icmp .lt 8, 3) := by decide +kernel
theorem dX6_checkRange_5 : decode cX6_checkRange 5 = .ok (.iload_n 0, 1) := by decide +kernel
theorem dX6_checkRange_6 : decode cX6_checkRange 6 = .ok (.iload_n 2, 1) := by decide +kernel
theorem dX6_checkRange_7 : decode cX6_checkRange 7 = .ok (.if_icmp .le 14, 3) := by decide +kernel
theorem dX6_checkRange_10 : decode cX6_checkRange 10 = .ok (.new 138, 3) := by decide +kernel
theorem dX6_checkRange_13 : decode cX6_checkRange 13 = .ok (.dup, 1) := by decide +kernel
theorem dX6_checkRange_14 : decode cX6_checkRange 14 = .ok (.ldc_w 307, 3) := by decide +kernel
theorem dX6_checkRange_17 : decode cX6_checkRange 17 = .ok (.invokespecial 142, 3) := by decide +kernel
theorem dX6_checkRange_20 : decode cX6_checkRange 20 = .ok (.athrow, 1) := by decide +kernel
theorem dX6_checkRange_21 : decode cX6_checkRange 21 = .ok (.return_, 1) := by decide +kernel
set_option maxRecDepth 20000 in
theorem ggX6_perform_X0_whyNot : GoodIn wsX6_perform wsX0_whyNot := goodIn_r _ [10, 11, 12, 13, 14, 15, 16, 17, 9, 18, 19, 20, 21, 22, 122, 123, 124, 125, 126, 127, 128] (by decide +kernel) (by decide +kernel)
set_option maxRecDepth 20000 in
theorem gX6_perform_X0_whyNot : GoodIn wsX6_perform (wsV RX6 234 RX0 yX0_whyNot wsX0_whyNot) := goodIn_app (goodIn_of _ (by decide +kernel)) ggX6_perform_X0_whyNot
set_option maxRecDepth 20000 in
theorem ggX6_perform_X2_save : GoodIn wsX6_perform wsX2_save := goodIn_r _ [27, 28, 29, 30, 31, 32, 26, 33, 34, 35, 36, 37, 38, 39, 40, 41, 42, 43, 44, 45, 46, 47, 48, 49, 50, 51, 52, 53, 54, 55, 56, 57, 9, 58, 11, 59, 13, 60, 14, 61, 62, 12, 63, 64, 65, 66, 67, 68, 69, 70, 71, 72, 129, 130, 110, 111, 112, 113, 114, 115, 116, 117, 118, 119, 120, 121, 122, 123, 124, 125, 126, 127, 128, 131, 132, 133, 134] (by decide +kernel) (by decide +kernel)
set_option maxRecDepth 20000 in
theorem gX6_perform_X2_save : GoodIn wsX6_perform (wsV RX6 75 RX2 yX2_save wsX2_save) := goodIn_app (goodIn_of _ (by decide +kernel)) ggX6_perform_X2_save
set_option maxRecDepth 20000 in
theorem ggX6_perform_X4_carryOut : GoodIn wsX6_perform wsX4_carryOut := goodIn_r _ [76, 39, 77, 48, 50, 78, 52, 79, 80, 81, 82, 83, 9, 84, 12, 85, 86, 87, 88, 89, 90, 21, 91, 92, 93, 94, 95, 96, 97, 98, 11, 13, 99, 100, 101, 102, 14, 61, 110, 111, 112, 113, 114, 115, 116, 117, 118, 119, 120, 121, 122, 123, 124, 125, 126, 127, 128] (by decide +kernel) (by decide +kernel)
set_option maxRecDepth 20000 in
theorem gX6_perform_X4_carryOut : GoodIn wsX6_perform (wsV RX6 311 RX4 yX4_carryOut wsX4_carryOut) := goodIn_app (goodIn_of _ (by decide +kernel)) ggX6_perform_X4_carryOut
theorem dX6_perform_0 : decode cX6_perform 0 = .ok (.aload_n 0, 1) := by decide +kernel
theorem dX6_perform_1 : decode cX6_perform 1 = .ok (.getfield 12, 3) := by decide +kernel
theorem dX6_perform_4 : decode cX6_perform 4 = .ok (.getfield 62, 3) := by decide +kernel
theorem dX6_perform_7 : decode cX6_perform 7 = .ok (.iload_n 1, 1) := by decide +kernel
theorem dX6_perform_8 : decode cX6_perform 8 = .ok (.iload_n 2, 1) := by decide +kernel
theorem dX6_perform_9 : decode cX6_perform 9 = .ok (.iload_n 3, 1) := by decide +kernel
theorem dX6_perform_10 : decode cX6_perform 10 = .ok (.invokevirtual 234, 3) := by decide +kernel
theorem dX6_perform_13 : decode cX6_perform 13 = .ok (.ifCond .eq 14, 3) := by decide +kernel
theorem dX6_perform_16 : decode cX6_perform 16 = .ok (.new 121, 3) := by decide +kernel
theorem dX6_perform_19 : decode cX6_perform 19 = .ok (.dup, 1) := by decide +kernel
theorem dX6_perform_20 : decode cX6_perform 20 = .ok (.ldc_w 309, 3) := by decide +kernel
theorem dX6_perform_23 : decode cX6_perform 23 = .ok (.invokespecial 125, 3) := by decide +kernel
theorem dX6_perform_26 : decode cX6_perform 26 = .ok (.athrow, 1) := by decide +kernel
theorem dX6_perform_27 : decode cX6_perform 27 = .ok (.aload_n 0, 1) := by decide +kernel
theorem dX6_perform_28 : decode cX6_perform 28 = .ok (.getfield 26, 3) := by decide +kernel
theorem dX6_perform_31 : decode cX6_perform 31 = .ok (.aload_n 0, 1) := by decide +kernel
theorem dX6_perform_32 : decode cX6_perform 32 = .ok (.getfield 12, 3) := by decide +kernel
theorem dX6_perform_35 : decode cX6_perform 35 = .ok (.invokevirtual 75, 3) := by decide +kernel
theorem dX6_perform_38 : decode cX6_perform 38 = .ok (.aload_n 0, 1) := by decide +kernel
theorem dX6_perform_39 : decode cX6_perform 39 = .ok (.getfield 12, 3) := by decide +kernel
theorem dX6_perform_42 : decode cX6_perform 42 = .ok (.iload_n 1, 1) := by decide +kernel
theorem dX6_perform_43 : decode cX6_perform 43 = .ok (.iload_n 2, 1) := by decide +kernel
theorem dX6_perform_44 : decode cX6_perform 44 = .ok (.iload_n 3, 1) := by decide +kernel
theorem dX6_perform_45 : decode cX6_perform 45 = .ok (.invokevirtual 311, 3) := by decide +kernel
theorem dX6_perform_48 : decode cX6_perform 48 = .ok (.return_, 1) := by decide +kernel
theorem dJ9_abs_0f7a4_0 : decode cJ9_abs_0f7a4 0 = .ok (.iload_n 0, 1) := by decide +kernel
theorem dJ9_abs_0f7a4_1 : decode cJ9_abs_0f7a4 1 = .ok (.ifCond .ge 8, 3) := by decide +kernel
theorem dJ9_abs_0f7a4_4 : decode cJ9_abs_0f7a4 4 = .ok (.iload_n 0, 1) := by decide +kernel
theorem dJ9_abs_0f7a4_5 : decode cJ9_abs_0f7a4 5 = .ok (.ineg, 1) := by decide +kernel
theorem dJ9_abs_0f7a4_6 : decode cJ9_abs_0f7a4 6 = .ok (.goto 4, 3) := by decide +kernel
theorem dJ9_abs_0f7a4_9 : decode cJ9_abs_0f7a4 9 = .ok (.iload_n 0, 1) := by decide +kernel
theorem dJ9_abs_0f7a4_10 : decode cJ9_abs_0f7a4 10 = .ok (.ireturn, 1) := by decide +kernel
theorem dJ9_max_7cf53_0 : decode cJ9_max_7cf53 0 = .ok (.iload_n 0, 1) := by decide +kernel
theorem dJ9_max_7cf53_1 : decode cJ9_max_7cf53 1 = .ok (.iload_n 1, 1) := by decide +kernel
theorem dJ9_max_7cf53_2 : decode cJ9_max_7cf53 2 = .ok (.if_icmp .lt 7, 3) := by decide +kernel
theorem dJ9_max_7cf53_5 : decode cJ9_max_7cf53 5 = .ok (.iload_n 0, 1) := by decide +kernel
theorem dJ9_max_7cf53_6 : decode cJ9_max_7cf53 6 = .ok (.goto 4, 3) := by decide +kernel
theorem dJ9_max_7cf53_9 : decode cJ9_max_7cf53 9 = .ok (.iload_n 1, 1) := by decide +kernel
theorem dJ9_max_7cf53_10 : decode cJ9_max_7cf53 10 = .ok (.ireturn, 1) := by decide +kernel
theorem dJ9_min_7cf53_0 : decode cJ9_min_7cf53 0 = .ok (.iload_n 0, 1) := by decide +kernel
theorem dJ9_min_7cf53_1 : decode cJ9_min_7cf53 1 = .ok (.iload_n 1, 1) := by decide +kernel
theorem dJ9_min_7cf53_2 : decode cJ9_min_7cf53 2 = .ok (.if_icmp .gt 7, 3) := by decide +kernel
theorem dJ9_min_7cf53_5 : decode cJ9_min_7cf53 5 = .ok (.iload_n 0, 1) := by decide +kernel
theorem dJ9_min_7cf53_6 : decode cJ9_min_7cf53 6 = .ok (.goto 4, 3) := by decide +kernel
theorem dJ9_min_7cf53_9 : decode cJ9_min_7cf53 9 = .ok (.iload_n 1, 1) := by decide +kernel
theorem dJ9_min_7cf53_10 : decode cJ9_min_7cf53 10 = .ok (.ireturn, 1) := by decide +kernel
theorem dJ7_fill_53178_0 : decode cJ7_fill_53178 0 = .ok (.iconst 0, 1) := by decide +kernel
theorem dJ7_fill_53178_1 : decode cJ7_fill_53178 1 = .ok (.istore_n 2, 1) := by decide +kernel
theorem dJ7_fill_53178_2 : decode cJ7_fill_53178 2 = .ok (.aload_n 0, 1) := by decide +kernel
theorem dJ7_fill_53178_3 : decode cJ7_fill_53178 3 = .ok (.arraylength, 1) := by decide +kernel
theorem dJ7_fill_53178_4 : decode cJ7_fill_53178 4 = .ok (.istore_n 3, 1) := by decide +kernel
theorem dJ7_fill_53178_5 : decode cJ7_fill_53178 5 = .ok (.iload_n 2, 1) := by decide +kernel
theorem dJ7_fill_53178_6 : decode cJ7_fill_53178 6 = .ok (.iload_n 3, 1) := by decide +kernel
theorem dJ7_fill_53178_7 : decode cJ7_fill_53178 7 = .ok (.if_icmp .ge 13, 3) := by decide +kernel
theorem dJ7_fill_53178_10 : decode cJ7_fill_53178 10 = .ok (.aload_n 0, 1) := by decide +kernel
theorem dJ7_fill_53178_11 : decode cJ7_fill_53178 11 = .ok (.iload_n 2, 1) := by decide +kernel
theorem dJ7_fill_53178_12 : decode cJ7_fill_53178 12 = .ok (.iload_n 1, 1) := by decide +kernel
theorem dJ7_fill_53178_13 : decode cJ7_fill_53178 13 = .ok (.iastore, 1) := by decide +kernel
theorem dJ7_fill_53178_14 : decode cJ7_fill_53178 14 = .ok (.iinc 2 1, 3) := by decide +kernel
theorem dJ7_fill_53178_17 : decode cJ7_fill_53178 17 = .ok (.goto (-12), 3) := by decide +kernel
theorem dJ7_fill_53178_20 : decode cJ7_fill_53178 20 = .ok (.return_, 1) := by decide +kernel
abbrev vwCl : List vw_C := [(RX0, TX0, 7), (RX1, TX1, 3), (RX2, TX2, 2), (RX3, TX3, 4), (RX4, TX4, 12), (RX5, TX5, 2), (RX6, TX6, 7)]
