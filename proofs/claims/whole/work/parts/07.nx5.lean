theorem dX5_init_0 : decode cX5_init 0 = .ok (.aload_n 0, 1) := by decide +kernel
theorem dX5_init_1 : decode cX5_init 1 = .ok (.invokespecial 1, 3) := by decide +kernel
theorem dX5_init_4 : decode cX5_init 4 = .ok (.aload_n 0, 1) := by decide +kernel
theorem dX5_init_5 : decode cX5_init 5 = .ok (.bipush 6, 2) := by decide +kernel
theorem dX5_init_7 : decode cX5_init 7 = .ok (.newarray .int, 2) := by decide +kernel
theorem dX5_init_9 : decode cX5_init 9 = .ok (.putfield 7, 3) := by decide +kernel
theorem dX5_init_12 : decode cX5_init 12 = .ok (.aload_n 0, 1) := by decide +kernel
theorem dX5_init_13 : decode cX5_init 13 = .ok (.bipush 40, 2) := by decide +kernel
theorem dX5_init_15 : decode cX5_init 15 = .ok (.newarray .int, 2) := by decide +kernel
theorem dX5_init_17 : decode cX5_init 17 = .ok (.putfield 13, 3) := by decide +kernel
theorem dX5_init_20 : decode cX5_init 20 = .ok (.aload_n 0, 1) := by decide +kernel
theorem dX5_init_21 : decode cX5_init 21 = .ok (.bipush 40, 2) := by decide +kernel
theorem dX5_init_23 : decode cX5_init 23 = .ok (.newarray .int, 2) := by decide +kernel
theorem dX5_init_25 : decode cX5_init 25 = .ok (.putfield 16, 3) := by decide +kernel
theorem dX5_init_28 : decode cX5_init 28 = .ok (.aload_n 0, 1) := by decide +kernel
theorem dX5_init_29 : decode cX5_init 29 = .ok (.bipush 40, 2) := by decide +kernel
theorem dX5_init_31 : decode cX5_init 31 = .ok (.newarray .int, 2) := by decide +kernel
theorem dX5_init_33 : decode cX5_init 33 = .ok (.putfield 19, 3) := by decide +kernel
theorem dX5_init_36 : decode cX5_init 36 = .ok (.aload_n 0, 1) := by decide +kernel
theorem dX5_init_37 : decode cX5_init 37 = .ok (.bipush 40, 2) := by decide +kernel
theorem dX5_init_39 : decode cX5_init 39 = .ok (.newarray .int, 2) := by decide +kernel
theorem dX5_init_41 : decode cX5_init 41 = .ok (.putfield 22, 3) := by decide +kernel
theorem dX5_init_44 : decode cX5_init 44 = .ok (.aload_n 0, 1) := by decide +kernel
theorem dX5_init_45 : decode cX5_init 45 = .ok (.bipush 40, 2) := by decide +kernel
theorem dX5_init_47 : decode cX5_init 47 = .ok (.newarray .int, 2) := by decide +kernel
theorem dX5_init_49 : decode cX5_init 49 = .ok (.putfield 25, 3) := by decide +kernel
theorem dX5_init_52 : decode cX5_init 52 = .ok (.aload_n 0, 1) := by decide +kernel
theorem dX5_init_53 : decode cX5_init 53 = .ok (.bipush 40, 2) := by decide +kernel
theorem dX5_init_55 : decode cX5_init 55 = .ok (.newarray .int, 2) := by decide +kernel
theorem dX5_init_57 : decode cX5_init 57 = .ok (.putfield 28, 3) := by decide +kernel
theorem dX5_init_60 : decode cX5_init 60 = .ok (.aload_n 0, 1) := by decide +kernel
theorem dX5_init_61 : decode cX5_init 61 = .ok (.bipush 40, 2) := by decide +kernel
theorem dX5_init_63 : decode cX5_init 63 = .ok (.newarray .int, 2) := by decide +kernel
theorem dX5_init_65 : decode cX5_init 65 = .ok (.putfield 31, 3) := by decide +kernel
theorem dX5_init_68 : decode cX5_init 68 = .ok (.aload_n 0, 1) := by decide +kernel
theorem dX5_init_69 : decode cX5_init 69 = .ok (.bipush 40, 2) := by decide +kernel
theorem dX5_init_71 : decode cX5_init 71 = .ok (.newarray .int, 2) := by decide +kernel
theorem dX5_init_73 : decode cX5_init 73 = .ok (.putfield 34, 3) := by decide +kernel
theorem dX5_init_76 : decode cX5_init 76 = .ok (.aload_n 0, 1) := by decide +kernel
theorem dX5_init_77 : decode cX5_init 77 = .ok (.sipush 4200, 3) := by decide +kernel
theorem dX5_init_80 : decode cX5_init 80 = .ok (.newarray .int, 2) := by decide +kernel
theorem dX5_init_82 : decode cX5_init 82 = .ok (.putfield 37, 3) := by decide +kernel
theorem dX5_init_85 : decode cX5_init 85 = .ok (.aload_n 0, 1) := by decide +kernel
theorem dX5_init_86 : decode cX5_init 86 = .ok (.sipush 4200, 3) := by decide +kernel
theorem dX5_init_89 : decode cX5_init 89 = .ok (.newarray .int, 2) := by decide +kernel
theorem dX5_init_91 : decode cX5_init 91 = .ok (.putfield 40, 3) := by decide +kernel
theorem dX5_init_94 : decode cX5_init 94 = .ok (.aload_n 0, 1) := by decide +kernel
theorem dX5_init_95 : decode cX5_init 95 = .ok (.sipush 341, 3) := by decide +kernel
theorem dX5_init_98 : decode cX5_init 98 = .ok (.newarray .int, 2) := by decide +kernel
theorem dX5_init_100 : decode cX5_init 100 = .ok (.putfield 43, 3) := by decide +kernel
theorem dX5_init_103 : decode cX5_init 103 = .ok (.aload_n 0, 1) := by decide +kernel
theorem dX5_init_104 : decode cX5_init 104 = .ok (.sipush 341, 3) := by decide +kernel
theorem dX5_init_107 : decode cX5_init 107 = .ok (.newarray .int, 2) := by decide +kernel
theorem dX5_init_109 : decode cX5_init 109 = .ok (.putfield 46, 3) := by decide +kernel
theorem dX5_init_112 : decode cX5_init 112 = .ok (.aload_n 0, 1) := by decide +kernel
theorem dX5_init_113 : decode cX5_init 113 = .ok (.iconst 3, 1) := by decide +kernel
theorem dX5_init_114 : decode cX5_init 114 = .ok (.newarray .int, 2) := by decide +kernel
theorem dX5_init_116 : decode cX5_init 116 = .ok (.putfield 49, 3) := by decide +kernel
theorem dX5_init_119 : decode cX5_init 119 = .ok (.aload_n 0, 1) := by decide +kernel
theorem dX5_init_120 : decode cX5_init 120 = .ok (.iconst 3, 1) := by decide +kernel
theorem dX5_init_121 : decode cX5_init 121 = .ok (.newarray .int, 2) := by decide +kernel
theorem dX5_init_123 : decode cX5_init 123 = .ok (.putfield 52, 3) := by decide +kernel
theorem dX5_init_126 : decode cX5_init 126 = .ok (.aload_n 0, 1) := by decide +kernel
theorem dX5_init_127 : decode cX5_init 127 = .ok (.bipush 40, 2) := by decide +kernel
theorem dX5_init_129 : decode cX5_init 129 = .ok (.newarray .int, 2) := by decide +kernel
theorem dX5_init_131 : decode cX5_init 131 = .ok (.putfield 55, 3) := by decide +kernel
theorem dX5_init_134 : decode cX5_init 134 = .ok (.aload_n 0, 1) := by decide +kernel
theorem dX5_init_135 : decode cX5_init 135 = .ok (.sipush 360, 3) := by decide +kernel
theorem dX5_init_138 : decode cX5_init 138 = .ok (.newarray .int, 2) := by decide +kernel
theorem dX5_init_140 : decode cX5_init 140 = .ok (.putfield 58, 3) := by decide +kernel
theorem dX5_init_143 : decode cX5_init 143 = .ok (.iconst 0, 1) := by decide +kernel
theorem dX5_init_144 : decode cX5_init 144 = .ok (.istore_n 1, 1) := by decide +kernel
theorem dX5_init_145 : decode cX5_init 145 = .ok (.iload_n 1, 1) := by decide +kernel
theorem dX5_init_146 : decode cX5_init 146 = .ok (.bipush 6, 2) := by decide +kernel
theorem dX5_init_148 : decode cX5_init 148 = .ok (.if_icmp .ge 17, 3) := by decide +kernel
theorem dX5_init_151 : decode cX5_init 151 = .ok (.aload_n 0, 1) := by decide +kernel
theorem dX5_init_152 : decode cX5_init 152 = .ok (.getfield 7, 3) := by decide +kernel
theorem dX5_init_155 : decode cX5_init 155 = .ok (.iload_n 1, 1) := by decide +kernel
theorem dX5_init_156 : decode cX5_init 156 = .ok (.bipush 50, 2) := by decide +kernel
theorem dX5_init_158 : decode cX5_init 158 = .ok (.iastore, 1) := by decide +kernel
theorem dX5_init_159 : decode cX5_init 159 = .ok (.iinc 1 1, 3) := by decide +kernel
theorem dX5_init_162 : decode cX5_init 162 = .ok (.goto (-17), 3) := by decide +kernel
theorem dX5_init_165 : decode cX5_init 165 = .ok (.return_, 1) := by decide +kernel
theorem dX5_thrown_0 : decode cX5_thrown 0 = .ok (.aload_n 0, 1) := by decide +kernel
theorem dX5_thrown_1 : decode cX5_thrown 1 = .ok (.getfield 61, 3) := by decide +kernel
theorem dX5_thrown_4 : decode cX5_thrown 4 = .ok (.ireturn, 1) := by decide +kernel
theorem dX5_fails_0 : decode cX5_fails 0 = .ok (.aload_n 0, 1) := by decide +kernel
theorem dX5_fails_1 : decode cX5_fails 1 = .ok (.iload_n 1, 1) := by decide +kernel
theorem dX5_fails_2 : decode cX5_fails 2 = .ok (.putfield 61, 3) := by decide +kernel
theorem dX5_fails_5 : decode cX5_fails 5 = .ok (.iconst 0, 1) := by decide +kernel
theorem dX5_fails_6 : decode cX5_fails 6 = .ok (.ireturn, 1) := by decide +kernel
theorem dX5_asks_0 : decode cX5_asks 0 = .ok (.aload_n 0, 1) := by decide +kernel
theorem dX5_asks_1 : decode cX5_asks 1 = .ok (.iload_n 1, 1) := by decide +kernel
theorem dX5_asks_2 : decode cX5_asks 2 = .ok (.ifCond .eq 7, 3) := by decide +kernel
theorem dX5_asks_5 : decode cX5_asks 5 = .ok (.iconst 0, 1) := by decide +kernel
theorem dX5_asks_6 : decode cX5_asks 6 = .ok (.goto 4, 3) := by decide +kernel
theorem dX5_asks_9 : decode cX5_asks 9 = .ok (.iconst 1, 1) := by decide +kernel
theorem dX5_asks_10 : decode cX5_asks 10 = .ok (.putfield 61, 3) := by decide +kernel
theorem dX5_asks_13 : decode cX5_asks 13 = .ok (.iload_n 1, 1) := by decide +kernel
theorem dX5_asks_14 : decode cX5_asks 14 = .ok (.ireturn, 1) := by decide +kernel
theorem dX5_in_0 : decode cX5_in 0 = .ok (.iload_n 0, 1) := by decide +kernel
theorem dX5_in_1 : decode cX5_in 1 = .ok (.iload_n 1, 1) := by decide +kernel
theorem dX5_in_2 : decode cX5_in 2 = .ok (.if_icmp .lt 12, 3) := by decide +kernel
theorem dX5_in_5 : decode cX5_in 5 = .ok (.iload_n 0, 1) := by decide +kernel
theorem dX5_in_6 : decode cX5_in 6 = .ok (.iload_n 2, 1) := by decide +kernel
theorem dX5_in_7 : decode cX5_in 7 = .ok (.if_icmp .gt 7, 3) := by decide +kernel
theorem dX5_in_10 : decode cX5_in 10 = .ok (.iconst 1, 1) := by decide +kernel
theorem dX5_in_11 : decode cX5_in 11 = .ok (.goto 4, 3) := by decide +kernel
theorem dX5_in_14 : decode cX5_in 14 = .ok (.iconst 0, 1) := by decide +kernel
theorem dX5_in_15 : decode cX5_in 15 = .ok (.ireturn, 1) := by decide +kernel
theorem dX5_isEditor_0 : decode cX5_isEditor 0 = .ok (.iload_n 0, 1) := by decide +kernel
theorem dX5_isEditor_1 : decode cX5_isEditor 1 = .ok (.ifCond .lt 13, 3) := by decide +kernel
theorem dX5_isEditor_4 : decode cX5_isEditor 4 = .ok (.iload_n 0, 1) := by decide +kernel
theorem dX5_isEditor_5 : decode cX5_isEditor 5 = .ok (.bipush 6, 2) := by decide +kernel
theorem dX5_isEditor_7 : decode cX5_isEditor 7 = .ok (.if_icmp .ge 7, 3) := by decide +kernel
theorem dX5_isEditor_10 : decode cX5_isEditor 10 = .ok (.iconst 1, 1) := by decide +kernel
theorem dX5_isEditor_11 : decode cX5_isEditor 11 = .ok (.goto 4, 3) := by decide +kernel
theorem dX5_isEditor_14 : decode cX5_isEditor 14 = .ok (.iconst 0, 1) := by decide +kernel
theorem dX5_isEditor_15 : decode cX5_isEditor 15 = .ok (.ireturn, 1) := by decide +kernel
set_option maxRecDepth 20000 in
theorem ggX5_isCrossing_X5_in : GoodIn wsX5_isCrossing wsX5_in := goodIn_r _ [4] (by decide +kernel) (by decide +kernel)
set_option maxRecDepth 20000 in
theorem gX5_isCrossing_X5_in : GoodIn wsX5_isCrossing (va_wsS RX5 65 yX5_in wsX5_in) := goodIn_app (goodIn_of _ (by decide +kernel)) ggX5_isCrossing_X5_in
theorem dX5_isCrossing_0 : decode cX5_isCrossing 0 = .ok (.iload_n 0, 1) := by decide +kernel
theorem dX5_isCrossing_1 : decode cX5_isCrossing 1 = .ok (.iconst 0, 1) := by decide +kernel
theorem dX5_isCrossing_2 : decode cX5_isCrossing 2 = .ok (.bipush 16, 2) := by decide +kernel
theorem dX5_isCrossing_4 : decode cX5_isCrossing 4 = .ok (.invokestatic 65, 3) := by decide +kernel
theorem dX5_isCrossing_7 : decode cX5_isCrossing 7 = .ok (.ifCond .eq 17, 3) := by decide +kernel
theorem dX5_isCrossing_10 : decode cX5_isCrossing 10 = .ok (.iload_n 1, 1) := by decide +kernel
theorem dX5_isCrossing_11 : decode cX5_isCrossing 11 = .ok (.iconst 0, 1) := by decide +kernel
theorem dX5_isCrossing_12 : decode cX5_isCrossing 12 = .ok (.bipush 16, 2) := by decide +kernel
theorem dX5_isCrossing_14 : decode cX5_isCrossing 14 = .ok (.invokestatic 65, 3) := by decide +kernel
theorem dX5_isCrossing_17 : decode cX5_isCrossing 17 = .ok (.ifCond .eq 7, 3) := by decide +kernel
theorem dX5_isCrossing_20 : decode cX5_isCrossing 20 = .ok (.iconst 1, 1) := by decide +kernel
theorem dX5_isCrossing_21 : decode cX5_isCrossing 21 = .ok (.goto 4, 3) := by decide +kernel
theorem dX5_isCrossing_24 : decode cX5_isCrossing 24 = .ok (.iconst 0, 1) := by decide +kernel
theorem dX5_isCrossing_25 : decode cX5_isCrossing 25 = .ok (.ireturn, 1) := by decide +kernel
theorem dX5_isWay_0 : decode cX5_isWay 0 = .ok (.iload_n 1, 1) := by decide +kernel
theorem dX5_isWay_1 : decode cX5_isWay 1 = .ok (.ifCond .lt 15, 3) := by decide +kernel
theorem dX5_isWay_4 : decode cX5_isWay 4 = .ok (.iload_n 1, 1) := by decide +kernel
theorem dX5_isWay_5 : decode cX5_isWay 5 = .ok (.aload_n 0, 1) := by decide +kernel
theorem dX5_isWay_6 : decode cX5_isWay 6 = .ok (.getfield 69, 3) := by decide +kernel
theorem dX5_isWay_9 : decode cX5_isWay 9 = .ok (.if_icmp .ge 7, 3) := by decide +kernel
theorem dX5_isWay_12 : decode cX5_isWay 12 = .ok (.iconst 1, 1) := by decide +kernel
theorem dX5_isWay_13 : decode cX5_isWay 13 = .ok (.goto 4, 3) := by decide +kernel
theorem dX5_isWay_16 : decode cX5_isWay 16 = .ok (.iconst 0, 1) := by decide +kernel
theorem dX5_isWay_17 : decode cX5_isWay 17 = .ok (.ireturn, 1) := by decide +kernel
theorem dX5_kindNow_0 : decode cX5_kindNow 0 = .ok (.aload_n 0, 1) := by decide +kernel
theorem dX5_kindNow_1 : decode cX5_kindNow 1 = .ok (.getfield 37, 3) := by decide +kernel
theorem dX5_kindNow_4 : decode cX5_kindNow 4 = .ok (.aload_n 0, 1) := by decide +kernel
theorem dX5_kindNow_5 : decode cX5_kindNow 5 = .ok (.getfield 31, 3) := by decide +kernel
theorem dX5_kindNow_8 : decode cX5_kindNow 8 = .ok (.iload_n 1, 1) := by decide +kernel
theorem dX5_kindNow_9 : decode cX5_kindNow 9 = .ok (.iaload, 1) := by decide +kernel
theorem dX5_kindNow_10 : decode cX5_kindNow 10 = .ok (.iaload, 1) := by decide +kernel
theorem dX5_kindNow_11 : decode cX5_kindNow 11 = .ok (.sipush 1000, 3) := by decide +kernel
theorem dX5_kindNow_14 : decode cX5_kindNow 14 = .ok (.irem, 1) := by decide +kernel
theorem dX5_kindNow_15 : decode cX5_kindNow 15 = .ok (.bipush 100, 2) := by decide +kernel
theorem dX5_kindNow_17 : decode cX5_kindNow 17 = .ok (.idiv, 1) := by decide +kernel
theorem dX5_kindNow_18 : decode cX5_kindNow 18 = .ok (.ireturn, 1) := by decide +kernel
theorem dX5_directionNow_0 : decode cX5_directionNow 0 = .ok (.aload_n 0, 1) := by decide +kernel
theorem dX5_directionNow_1 : decode cX5_directionNow 1 = .ok (.getfield 37, 3) := by decide +kernel
theorem dX5_directionNow_4 : decode cX5_directionNow 4 = .ok (.aload_n 0, 1) := by decide +kernel
theorem dX5_directionNow_5 : decode cX5_directionNow 5 = .ok (.getfield 31, 3) := by decide +kernel
theorem dX5_directionNow_8 : decode cX5_directionNow 8 = .ok (.iload_n 1, 1) := by decide +kernel
theorem dX5_directionNow_9 : decode cX5_directionNow 9 = .ok (.iaload, 1) := by decide +kernel
theorem dX5_directionNow_10 : decode cX5_directionNow 10 = .ok (.iaload, 1) := by decide +kernel
theorem dX5_directionNow_11 : decode cX5_directionNow 11 = .ok (.bipush 100, 2) := by decide +kernel
theorem dX5_directionNow_13 : decode cX5_directionNow 13 = .ok (.irem, 1) := by decide +kernel
theorem dX5_directionNow_14 : decode cX5_directionNow 14 = .ok (.bipush 10, 2) := by decide +kernel
theorem dX5_directionNow_16 : decode cX5_directionNow 16 = .ok (.idiv, 1) := by decide +kernel
theorem dX5_directionNow_17 : decode cX5_directionNow 17 = .ok (.ireturn, 1) := by decide +kernel
theorem dX5_makes_0 : decode cX5_makes 0 = .ok (.aload_n 0, 1) := by decide +kernel
theorem dX5_makes_1 : decode cX5_makes 1 = .ok (.getfield 37, 3) := by decide +kernel
theorem dX5_makes_4 : decode cX5_makes 4 = .ok (.aload_n 0, 1) := by decide +kernel
theorem dX5_makes_5 : decode cX5_makes 5 = .ok (.getfield 72, 3) := by decide +kernel
theorem dX5_makes_8 : decode cX5_makes 8 = .ok (.sipush 1000, 3) := by decide +kernel
theorem dX5_makes_11 : decode cX5_makes 11 = .ok (.iload_n 1, 1) := by decide +kernel
theorem dX5_makes_12 : decode cX5_makes 12 = .ok (.imul, 1) := by decide +kernel
theorem dX5_makes_13 : decode cX5_makes 13 = .ok (.bipush 100, 2) := by decide +kernel
theorem dX5_makes_15 : decode cX5_makes 15 = .ok (.iload_n 2, 1) := by decide +kernel
theorem dX5_makes_16 : decode cX5_makes 16 = .ok (.imul, 1) := by decide +kernel
theorem dX5_makes_17 : decode cX5_makes 17 = .ok (.iadd, 1) := by decide +kernel
theorem dX5_makes_18 : decode cX5_makes 18 = .ok (.bipush 10, 2) := by decide +kernel
theorem dX5_makes_20 : decode cX5_makes 20 = .ok (.iload_n 3, 1) := by decide +kernel
theorem dX5_makes_21 : decode cX5_makes 21 = .ok (.imul, 1) := by decide +kernel
theorem dX5_makes_22 : decode cX5_makes 22 = .ok (.iadd, 1) := by decide +kernel
theorem dX5_makes_23 : decode cX5_makes 23 = .ok (.iload 4, 2) := by decide +kernel
theorem dX5_makes_25 : decode cX5_makes 25 = .ok (.iadd, 1) := by decide +kernel
theorem dX5_makes_26 : decode cX5_makes 26 = .ok (.iconst 1, 1) := by decide +kernel
theorem dX5_makes_27 : decode cX5_makes 27 = .ok (.iadd, 1) := by decide +kernel
theorem dX5_makes_28 : decode cX5_makes 28 = .ok (.iastore, 1) := by decide +kernel
theorem dX5_makes_29 : decode cX5_makes 29 = .ok (.aload_n 0, 1) := by decide +kernel
theorem dX5_makes_30 : decode cX5_makes 30 = .ok (.getfield 40, 3) := by decide +kernel
theorem dX5_makes_33 : decode cX5_makes 33 = .ok (.aload_n 0, 1) := by decide +kernel
theorem dX5_makes_34 : decode cX5_makes 34 = .ok (.getfield 72, 3) := by decide +kernel
theorem dX5_makes_37 : decode cX5_makes 37 = .ok (.aload_n 0, 1) := by decide +kernel
theorem dX5_makes_38 : decode cX5_makes 38 = .ok (.getfield 28, 3) := by decide +kernel
theorem dX5_makes_41 : decode cX5_makes 41 = .ok (.iload_n 1, 1) := by decide +kernel
theorem dX5_makes_42 : decode cX5_makes 42 = .ok (.iaload, 1) := by decide +kernel
theorem dX5_makes_43 : decode cX5_makes 43 = .ok (.ifCond .ne 7, 3) := by decide +kernel
theorem dX5_makes_46 : decode cX5_makes 46 = .ok (.iconst (-1), 1) := by decide +kernel
theorem dX5_makes_47 : decode cX5_makes 47 = .ok (.goto 9, 3) := by decide +kernel
theorem dX5_makes_50 : decode cX5_makes 50 = .ok (.aload_n 0, 1) := by decide +kernel
theorem dX5_makes_51 : decode cX5_makes 51 = .ok (.getfield 31, 3) := by decide +kernel
theorem dX5_makes_54 : decode cX5_makes 54 = .ok (.iload_n 1, 1) := by decide +kernel
theorem dX5_makes_55 : decode cX5_makes 55 = .ok (.iaload, 1) := by decide +kernel
theorem dX5_makes_56 : decode cX5_makes 56 = .ok (.iastore, 1) := by decide +kernel
theorem dX5_makes_57 : decode cX5_makes 57 = .ok (.aload_n 0, 1) := by decide +kernel
theorem dX5_makes_58 : decode cX5_makes 58 = .ok (.getfield 31, 3) := by decide +kernel
theorem dX5_makes_61 : decode cX5_makes 61 = .ok (.iload_n 1, 1) := by decide +kernel
theorem dX5_makes_62 : decode cX5_makes 62 = .ok (.aload_n 0, 1) := by decide +kernel
theorem dX5_makes_63 : decode cX5_makes 63 = .ok (.getfield 72, 3) := by decide +kernel
theorem dX5_makes_66 : decode cX5_makes 66 = .ok (.iastore, 1) := by decide +kernel
theorem dX5_makes_67 : decode cX5_makes 67 = .ok (.aload_n 0, 1) := by decide +kernel
theorem dX5_makes_68 : decode cX5_makes 68 = .ok (.getfield 28, 3) := by decide +kernel
theorem dX5_makes_71 : decode cX5_makes 71 = .ok (.iload_n 1, 1) := by decide +kernel
theorem dX5_makes_72 : decode cX5_makes 72 = .ok (.dup2, 1) := by decide +kernel
theorem dX5_makes_73 : decode cX5_makes 73 = .ok (.iaload, 1) := by decide +kernel
theorem dX5_makes_74 : decode cX5_makes 74 = .ok (.iconst 1, 1) := by decide +kernel
theorem dX5_makes_75 : decode cX5_makes 75 = .ok (.iadd, 1) := by decide +kernel
theorem dX5_makes_76 : decode cX5_makes 76 = .ok (.iastore, 1) := by decide +kernel
theorem dX5_makes_77 : decode cX5_makes 77 = .ok (.aload_n 0, 1) := by decide +kernel
theorem dX5_makes_78 : decode cX5_makes 78 = .ok (.getfield 34, 3) := by decide +kernel
theorem dX5_makes_81 : decode cX5_makes 81 = .ok (.iload_n 1, 1) := by decide +kernel
theorem dX5_makes_82 : decode cX5_makes 82 = .ok (.iconst (-1), 1) := by decide +kernel
theorem dX5_makes_83 : decode cX5_makes 83 = .ok (.iastore, 1) := by decide +kernel
theorem dX5_makes_84 : decode cX5_makes 84 = .ok (.aload_n 0, 1) := by decide +kernel
theorem dX5_makes_85 : decode cX5_makes 85 = .ok (.dup, 1) := by decide +kernel
theorem dX5_makes_86 : decode cX5_makes 86 = .ok (.getfield 72, 3) := by decide +kernel
theorem dX5_makes_89 : decode cX5_makes 89 = .ok (.iconst 1, 1) := by decide +kernel
theorem dX5_makes_90 : decode cX5_makes 90 = .ok (.iadd, 1) := by decide +kernel
theorem dX5_makes_91 : decode cX5_makes 91 = .ok (.putfield 72, 3) := by decide +kernel
theorem dX5_makes_94 : decode cX5_makes 94 = .ok (.return_, 1) := by decide +kernel
set_option maxRecDepth 20000 in
theorem ggX5_addWay_X5_in : GoodIn wsX5_addWay wsX5_in := goodIn_r _ [9] (by decide +kernel) (by decide +kernel)
set_option maxRecDepth 20000 in
theorem gX5_addWay_X5_in : GoodIn wsX5_addWay (va_wsS RX5 65 yX5_in wsX5_in) := goodIn_app (goodIn_of _ (by decide +kernel)) ggX5_addWay_X5_in
set_option maxRecDepth 20000 in
theorem ggX5_addWay_X5_isEditor : GoodIn wsX5_addWay wsX5_isEditor := goodIn_r _ [12] (by decide +kernel) (by decide +kernel)
set_option maxRecDepth 20000 in
theorem gX5_addWay_X5_isEditor : GoodIn wsX5_addWay (va_wsS RX5 75 yX5_isEditor wsX5_isEditor) := goodIn_app (goodIn_of _ (by decide +kernel)) ggX5_addWay_X5_isEditor
set_option maxRecDepth 20000 in
theorem ggX5_addWay_X5_isCrossing : GoodIn wsX5_addWay wsX5_isCrossing := goodIn_r _ [15, 6, 7, 8, 9] (by decide +kernel) (by decide +kernel)
set_option maxRecDepth 20000 in
theorem gX5_addWay_X5_isCrossing : GoodIn wsX5_addWay (va_wsS RX5 79 yX5_isCrossing wsX5_isCrossing) := goodIn_app (goodIn_of _ (by decide +kernel)) ggX5_addWay_X5_isCrossing
set_option maxRecDepth 20000 in
theorem ggX5_addWay_X5_asks : GoodIn wsX5_addWay wsX5_asks := goodIn_r _ [19, 20, 35, 36, 37, 38, 39, 40, 41, 42, 43, 44, 45, 46, 47, 48, 49, 50, 51, 52, 53, 54] (by decide +kernel) (by decide +kernel)
set_option maxRecDepth 20000 in
theorem gX5_addWay_X5_asks : GoodIn wsX5_addWay (wsV RX5 83 RX5 yX5_asks wsX5_asks) := goodIn_app (goodIn_of _ (by decide +kernel)) ggX5_addWay_X5_asks
set_option maxRecDepth 20000 in
theorem ggX5_addWay_X5_fails : GoodIn wsX5_addWay wsX5_fails := goodIn_r _ [24, 20, 35, 36, 37, 38, 39, 40, 41, 42, 43, 44, 45, 46, 47, 48, 49, 50, 51, 52, 53, 54] (by decide +kernel) (by decide +kernel)
set_option maxRecDepth 20000 in
theorem gX5_addWay_X5_fails : GoodIn wsX5_addWay (wsV RX5 87 RX5 yX5_fails wsX5_fails) := goodIn_app (goodIn_of _ (by decide +kernel)) ggX5_addWay_X5_fails
set_option maxRecDepth 20000 in
theorem ggX5_addWay_X5_makes : GoodIn wsX5_addWay wsX5_makes := goodIn_r _ [28, 29, 30, 31, 32, 33, 34, 35, 36, 37, 38, 39, 40, 41, 42, 43, 44, 45, 46, 47, 48, 49, 50, 51, 52, 53, 54] (by decide +kernel) (by decide +kernel)
set_option maxRecDepth 20000 in
theorem gX5_addWay_X5_makes : GoodIn wsX5_addWay (wsV RX5 91 RX5 yX5_makes wsX5_makes) := goodIn_app (goodIn_of _ (by decide +kernel)) ggX5_addWay_X5_makes
theorem dX5_addWay_0 : decode cX5_addWay 0 = .ok (.iload 4, 2) := by decide +kernel
theorem dX5_addWay_2 : decode cX5_addWay 2 = .ok (.ifCond .eq 19, 3) := by decide +kernel
theorem dX5_addWay_5 : decode cX5_addWay 5 = .ok (.iload 4, 2) := by decide +kernel
theorem dX5_addWay_7 : decode cX5_addWay 7 = .ok (.bipush (-16), 2) := by decide +kernel
theorem dX5_addWay_9 : decode cX5_addWay 9 = .ok (.bipush 16, 2) := by decide +kernel
theorem dX5_addWay_11 : decode cX5_addWay 11 = .ok (.invokestatic 65, 3) := by decide +kernel
theorem dX5_addWay_14 : decode cX5_addWay 14 = .ok (.ifCond .eq 7, 3) := by decide +kernel
theorem dX5_addWay_17 : decode cX5_addWay 17 = .ok (.iconst 1, 1) := by decide +kernel
theorem dX5_addWay_18 : decode cX5_addWay 18 = .ok (.goto 4, 3) := by decide +kernel
theorem dX5_addWay_21 : decode cX5_addWay 21 = .ok (.iconst 0, 1) := by decide +kernel
theorem dX5_addWay_22 : decode cX5_addWay 22 = .ok (.istore 6, 2) := by decide +kernel
theorem dX5_addWay_24 : decode cX5_addWay 24 = .ok (.iload 4, 2) := by decide +kernel
theorem dX5_addWay_26 : decode cX5_addWay 26 = .ok (.ifCond .le 10, 3) := by decide +kernel
theorem dX5_addWay_29 : decode cX5_addWay 29 = .ok (.iload_n 2, 1) := by decide +kernel
theorem dX5_addWay_30 : decode cX5_addWay 30 = .ok (.iload 4, 2) := by decide +kernel
theorem dX5_addWay_32 : decode cX5_addWay 32 = .ok (.iadd, 1) := by decide +kernel
theorem dX5_addWay_33 : decode cX5_addWay 33 = .ok (.goto 4, 3) := by decide +kernel
theorem dX5_addWay_36 : decode cX5_addWay 36 = .ok (.iload_n 2, 1) := by decide +kernel
theorem dX5_addWay_37 : decode cX5_addWay 37 = .ok (.istore 7, 2) := by decide +kernel
theorem dX5_addWay_39 : decode cX5_addWay 39 = .ok (.iload 4, 2) := by decide +kernel
theorem dX5_addWay_41 : decode cX5_addWay 41 = .ok (.ifCond .ge 10, 3) := by decide +kernel
theorem dX5_addWay_44 : decode cX5_addWay 44 = .ok (.iload_n 3, 1) := by decide +kernel
theorem dX5_addWay_45 : decode cX5_addWay 45 = .ok (.iload 4, 2) := by decide +kernel
theorem dX5_addWay_47 : decode cX5_addWay 47 = .ok (.isub, 1) := by decide +kernel
theorem dX5_addWay_48 : decode cX5_addWay 48 = .ok (.goto 4, 3) := by decide +kernel
theorem dX5_addWay_51 : decode cX5_addWay 51 = .ok (.iload_n 3, 1) := by decide +kernel
theorem dX5_addWay_52 : decode cX5_addWay 52 = .ok (.istore 8, 2) := by decide +kernel
theorem dX5_addWay_54 : decode cX5_addWay 54 = .ok (.aload_n 0, 1) := by decide +kernel
theorem dX5_addWay_55 : decode cX5_addWay 55 = .ok (.iload_n 1, 1) := by decide +kernel
theorem dX5_addWay_56 : decode cX5_addWay 56 = .ok (.invokestatic 75, 3) := by decide +kernel
theorem dX5_addWay_59 : decode cX5_addWay 59 = .ok (.ifCond .eq 30, 3) := by decide +kernel
theorem dX5_addWay_62 : decode cX5_addWay 62 = .ok (.iload_n 2, 1) := by decide +kernel
theorem dX5_addWay_63 : decode cX5_addWay 63 = .ok (.iload_n 3, 1) := by decide +kernel
theorem dX5_addWay_64 : decode cX5_addWay 64 = .ok (.invokestatic 79, 3) := by decide +kernel
theorem dX5_addWay_67 : decode cX5_addWay 67 = .ok (.ifCond .eq 22, 3) := by decide +kernel
theorem dX5_addWay_70 : decode cX5_addWay 70 = .ok (.iload 6, 2) := by decide +kernel
theorem dX5_addWay_72 : decode cX5_addWay 72 = .ok (.ifCond .eq 13, 3) := by decide +kernel
theorem dX5_addWay_75 : decode cX5_addWay 75 = .ok (.iload 7, 2) := by decide +kernel
theorem dX5_addWay_77 : decode cX5_addWay 77 = .ok (.iload 8, 2) := by decide +kernel
theorem dX5_addWay_79 : decode cX5_addWay 79 = .ok (.invokestatic 79, 3) := by decide +kernel
theorem dX5_addWay_82 : decode cX5_addWay 82 = .ok (.ifCond .eq 7, 3) := by decide +kernel
theorem dX5_addWay_85 : decode cX5_addWay 85 = .ok (.iconst 1, 1) := by decide +kernel
theorem dX5_addWay_86 : decode cX5_addWay 86 = .ok (.goto 4, 3) := by decide +kernel
theorem dX5_addWay_89 : decode cX5_addWay 89 = .ok (.iconst 0, 1) := by decide +kernel
theorem dX5_addWay_90 : decode cX5_addWay 90 = .ok (.invokevirtual 83, 3) := by decide +kernel
theorem dX5_addWay_93 : decode cX5_addWay 93 = .ok (.ifCond .ne 5, 3) := by decide +kernel
theorem dX5_addWay_96 : decode cX5_addWay 96 = .ok (.iconst 0, 1) := by decide +kernel
theorem dX5_addWay_97 : decode cX5_addWay 97 = .ok (.ireturn, 1) := by decide +kernel
theorem dX5_addWay_98 : decode cX5_addWay 98 = .ok (.iload 6, 2) := by decide +kernel
theorem dX5_addWay_100 : decode cX5_addWay 100 = .ok (.ifCond .eq 13, 3) := by decide +kernel
theorem dX5_addWay_103 : decode cX5_addWay 103 = .ok (.iload 5, 2) := by decide +kernel
theorem dX5_addWay_105 : decode cX5_addWay 105 = .ok (.iconst 0, 1) := by decide +kernel
theorem dX5_addWay_106 : decode cX5_addWay 106 = .ok (.iconst 3, 1) := by decide +kernel
theorem dX5_addWay_107 : decode cX5_addWay 107 = .ok (.invokestatic 65, 3) := by decide +kernel
theorem dX5_addWay_110 : decode cX5_addWay 110 = .ok (.ifCond .ne 9, 3) := by decide +kernel
theorem dX5_addWay_113 : decode cX5_addWay 113 = .ok (.aload_n 0, 1) := by decide +kernel
theorem dX5_addWay_114 : decode cX5_addWay 114 = .ok (.iconst 2, 1) := by decide +kernel
theorem dX5_addWay_115 : decode cX5_addWay 115 = .ok (.invokevirtual 87, 3) := by decide +kernel
theorem dX5_addWay_118 : decode cX5_addWay 118 = .ok (.ireturn, 1) := by decide +kernel
theorem dX5_addWay_119 : decode cX5_addWay 119 = .ok (.aload_n 0, 1) := by decide +kernel
theorem dX5_addWay_120 : decode cX5_addWay 120 = .ok (.getfield 69, 3) := by decide +kernel
theorem dX5_addWay_123 : decode cX5_addWay 123 = .ok (.bipush 40, 2) := by decide +kernel
theorem dX5_addWay_125 : decode cX5_addWay 125 = .ok (.if_icmp .ne 9, 3) := by decide +kernel
theorem dX5_addWay_128 : decode cX5_addWay 128 = .ok (.aload_n 0, 1) := by decide +kernel
theorem dX5_addWay_129 : decode cX5_addWay 129 = .ok (.iconst 3, 1) := by decide +kernel
theorem dX5_addWay_130 : decode cX5_addWay 130 = .ok (.invokevirtual 87, 3) := by decide +kernel
theorem dX5_addWay_133 : decode cX5_addWay 133 = .ok (.ireturn, 1) := by decide +kernel
theorem dX5_addWay_134 : decode cX5_addWay 134 = .ok (.aload_n 0, 1) := by decide +kernel
theorem dX5_addWay_135 : decode cX5_addWay 135 = .ok (.getfield 13, 3) := by decide +kernel
theorem dX5_addWay_138 : decode cX5_addWay 138 = .ok (.aload_n 0, 1) := by decide +kernel
theorem dX5_addWay_139 : decode cX5_addWay 139 = .ok (.getfield 69, 3) := by decide +kernel
theorem dX5_addWay_142 : decode cX5_addWay 142 = .ok (.iload_n 2, 1) := by decide +kernel
theorem dX5_addWay_143 : decode cX5_addWay 143 = .ok (.iastore, 1) := by decide +kernel
theorem dX5_addWay_144 : decode cX5_addWay 144 = .ok (.aload_n 0, 1) := by decide +kernel
theorem dX5_addWay_145 : decode cX5_addWay 145 = .ok (.getfield 16, 3) := by decide +kernel
theorem dX5_addWay_148 : decode cX5_addWay 148 = .ok (.aload_n 0, 1) := by decide +kernel
theorem dX5_addWay_149 : decode cX5_addWay 149 = .ok (.getfield 69, 3) := by decide +kernel
theorem dX5_addWay_152 : decode cX5_addWay 152 = .ok (.iload_n 3, 1) := by decide +kernel
theorem dX5_addWay_153 : decode cX5_addWay 153 = .ok (.iastore, 1) := by decide +kernel
theorem dX5_addWay_154 : decode cX5_addWay 154 = .ok (.aload_n 0, 1) := by decide +kernel
theorem dX5_addWay_155 : decode cX5_addWay 155 = .ok (.getfield 19, 3) := by decide +kernel
theorem dX5_addWay_158 : decode cX5_addWay 158 = .ok (.aload_n 0, 1) := by decide +kernel
theorem dX5_addWay_159 : decode cX5_addWay 159 = .ok (.getfield 69, 3) := by decide +kernel
theorem dX5_addWay_162 : decode cX5_addWay 162 = .ok (.iload 7, 2) := by decide +kernel
theorem dX5_addWay_164 : decode cX5_addWay 164 = .ok (.iastore, 1) := by decide +kernel
theorem dX5_addWay_165 : decode cX5_addWay 165 = .ok (.aload_n 0, 1) := by decide +kernel
theorem dX5_addWay_166 : decode cX5_addWay 166 = .ok (.getfield 22, 3) := by decide +kernel
theorem dX5_addWay_169 : decode cX5_addWay 169 = .ok (.aload_n 0, 1) := by decide +kernel
theorem dX5_addWay_170 : decode cX5_addWay 170 = .ok (.getfield 69, 3) := by decide +kernel
theorem dX5_addWay_173 : decode cX5_addWay 173 = .ok (.iload 8, 2) := by decide +kernel
theorem dX5_addWay_175 : decode cX5_addWay 175 = .ok (.iastore, 1) := by decide +kernel
theorem dX5_addWay_176 : decode cX5_addWay 176 = .ok (.aload_n 0, 1) := by decide +kernel
theorem dX5_addWay_177 : decode cX5_addWay 177 = .ok (.aload_n 0, 1) := by decide +kernel
theorem dX5_addWay_178 : decode cX5_addWay 178 = .ok (.getfield 69, 3) := by decide +kernel
theorem dX5_addWay_181 : decode cX5_addWay 181 = .ok (.iload 5, 2) := by decide +kernel
theorem dX5_addWay_183 : decode cX5_addWay 183 = .ok (.iconst 0, 1) := by decide +kernel
theorem dX5_addWay_184 : decode cX5_addWay 184 = .ok (.iload_n 1, 1) := by decide +kernel
theorem dX5_addWay_185 : decode cX5_addWay 185 = .ok (.invokevirtual 91, 3) := by decide +kernel
theorem dX5_addWay_188 : decode cX5_addWay 188 = .ok (.aload_n 0, 1) := by decide +kernel
theorem dX5_addWay_189 : decode cX5_addWay 189 = .ok (.dup, 1) := by decide +kernel
theorem dX5_addWay_190 : decode cX5_addWay 190 = .ok (.getfield 69, 3) := by decide +kernel
theorem dX5_addWay_193 : decode cX5_addWay 193 = .ok (.iconst 1, 1) := by decide +kernel
theorem dX5_addWay_194 : decode cX5_addWay 194 = .ok (.iadd, 1) := by decide +kernel
theorem dX5_addWay_195 : decode cX5_addWay 195 = .ok (.putfield 69, 3) := by decide +kernel
theorem dX5_addWay_198 : decode cX5_addWay 198 = .ok (.aload_n 0, 1) := by decide +kernel
theorem dX5_addWay_199 : decode cX5_addWay 199 = .ok (.getfield 69, 3) := by decide +kernel
theorem dX5_addWay_202 : decode cX5_addWay 202 = .ok (.iconst 1, 1) := by decide +kernel
theorem dX5_addWay_203 : decode cX5_addWay 203 = .ok (.isub, 1) := by decide +kernel
theorem dX5_addWay_204 : decode cX5_addWay 204 = .ok (.ireturn, 1) := by decide +kernel
set_option maxRecDepth 20000 in
theorem ggX5_edit_X5_isEditor : GoodIn wsX5_edit wsX5_isEditor := goodIn_r _ [8] (by decide +kernel) (by decide +kernel)
set_option maxRecDepth 20000 in
theorem gX5_edit_X5_isEditor : GoodIn wsX5_edit (va_wsS RX5 75 yX5_isEditor wsX5_isEditor) := goodIn_app (goodIn_of _ (by decide +kernel)) ggX5_edit_X5_isEditor
set_option maxRecDepth 20000 in
theorem ggX5_edit_X5_isWay : GoodIn wsX5_edit wsX5_isWay := goodIn_r _ [12, 13, 38, 39, 40, 41, 42, 43, 44, 45, 46, 47, 48, 49, 50, 51, 52, 53, 54, 55, 56, 57] (by decide +kernel) (by decide +kernel)
set_option maxRecDepth 20000 in
theorem gX5_edit_X5_isWay : GoodIn wsX5_edit (wsV RX5 95 RX5 yX5_isWay wsX5_isWay) := goodIn_app (goodIn_of _ (by decide +kernel)) ggX5_edit_X5_isWay
set_option maxRecDepth 20000 in
theorem ggX5_edit_X5_asks : GoodIn wsX5_edit wsX5_asks := goodIn_r _ [17, 1, 38, 39, 40, 41, 42, 43, 44, 45, 46, 47, 48, 49, 50, 51, 52, 53, 54, 55, 56, 57] (by decide +kernel) (by decide +kernel)
set_option maxRecDepth 20000 in
theorem gX5_edit_X5_asks : GoodIn wsX5_edit (wsV RX5 83 RX5 yX5_asks wsX5_asks) := goodIn_app (goodIn_of _ (by decide +kernel)) ggX5_edit_X5_asks
set_option maxRecDepth 20000 in
theorem ggX5_edit_X5_in : GoodIn wsX5_edit wsX5_in := goodIn_r _ [20] (by decide +kernel) (by decide +kernel)
set_option maxRecDepth 20000 in
theorem gX5_edit_X5_in : GoodIn wsX5_edit (va_wsS RX5 65 yX5_in wsX5_in) := goodIn_app (goodIn_of _ (by decide +kernel)) ggX5_edit_X5_in
set_option maxRecDepth 20000 in
theorem ggX5_edit_X5_kindNow : GoodIn wsX5_edit wsX5_kindNow := goodIn_r _ [24, 25, 26, 38, 39, 40, 41, 42, 43, 44, 45, 46, 47, 48, 49, 50, 51, 52, 53, 54, 55, 56, 57] (by decide +kernel) (by decide +kernel)
set_option maxRecDepth 20000 in
theorem gX5_edit_X5_kindNow : GoodIn wsX5_edit (wsV RX5 98 RX5 yX5_kindNow wsX5_kindNow) := goodIn_app (goodIn_of _ (by decide +kernel)) ggX5_edit_X5_kindNow
set_option maxRecDepth 20000 in
theorem ggX5_edit_X5_directionNow : GoodIn wsX5_edit wsX5_directionNow := goodIn_r _ [30, 25, 26, 38, 39, 40, 41, 42, 43, 44, 45, 46, 47, 48, 49, 50, 51, 52, 53, 54, 55, 56, 57] (by decide +kernel) (by decide +kernel)
set_option maxRecDepth 20000 in
theorem gX5_edit_X5_directionNow : GoodIn wsX5_edit (wsV RX5 101 RX5 yX5_directionNow wsX5_directionNow) := goodIn_app (goodIn_of _ (by decide +kernel)) ggX5_edit_X5_directionNow
set_option maxRecDepth 20000 in
theorem ggX5_edit_X5_makes : GoodIn wsX5_edit wsX5_makes := goodIn_r _ [34, 25, 35, 36, 37, 26, 4, 38, 39, 40, 41, 42, 43, 44, 45, 46, 47, 48, 49, 50, 51, 52, 53, 54, 55, 56, 57] (by decide +kernel) (by decide +kernel)
set_option maxRecDepth 20000 in
theorem gX5_edit_X5_makes : GoodIn wsX5_edit (wsV RX5 91 RX5 yX5_makes wsX5_makes) := goodIn_app (goodIn_of _ (by decide +kernel)) ggX5_edit_X5_makes
theorem dX5_edit_0 : decode cX5_edit 0 = .ok (.aload_n 0, 1) := by decide +kernel
theorem dX5_edit_1 : decode cX5_edit 1 = .ok (.iload_n 1, 1) := by decide +kernel
theorem dX5_edit_2 : decode cX5_edit 2 = .ok (.invokestatic 75, 3) := by decide +kernel
theorem dX5_edit_5 : decode cX5_edit 5 = .ok (.ifCond .eq 15, 3) := by decide +kernel
theorem dX5_edit_8 : decode cX5_edit 8 = .ok (.aload_n 0, 1) := by decide +kernel
theorem dX5_edit_9 : decode cX5_edit 9 = .ok (.iload_n 2, 1) := by decide +kernel
theorem dX5_edit_10 : decode cX5_edit 10 = .ok (.invokevirtual 95, 3) := by decide +kernel
theorem dX5_edit_13 : decode cX5_edit 13 = .ok (.ifCond .eq 7, 3) := by decide +kernel
theorem dX5_edit_16 : decode cX5_edit 16 = .ok (.iconst 1, 1) := by decide +kernel
theorem dX5_edit_17 : decode cX5_edit 17 = .ok (.goto 4, 3) := by decide +kernel
theorem dX5_edit_20 : decode cX5_edit 20 = .ok (.iconst 0, 1) := by decide +kernel
theorem dX5_edit_21 : decode cX5_edit 21 = .ok (.invokevirtual 83, 3) := by decide +kernel
theorem dX5_edit_24 : decode cX5_edit 24 = .ok (.ifCond .ne 5, 3) := by decide +kernel
theorem dX5_edit_27 : decode cX5_edit 27 = .ok (.iconst 0, 1) := by decide +kernel
theorem dX5_edit_28 : decode cX5_edit 28 = .ok (.ireturn, 1) := by decide +kernel
theorem dX5_edit_29 : decode cX5_edit 29 = .ok (.iload_n 3, 1) := by decide +kernel
theorem dX5_edit_30 : decode cX5_edit 30 = .ok (.iconst 0, 1) := by decide +kernel
theorem dX5_edit_31 : decode cX5_edit 31 = .ok (.iconst 3, 1) := by decide +kernel
theorem dX5_edit_32 : decode cX5_edit 32 = .ok (.invokestatic 65, 3) := by decide +kernel
theorem dX5_edit_35 : decode cX5_edit 35 = .ok (.ifCond .eq 13, 3) := by decide +kernel
theorem dX5_edit_38 : decode cX5_edit 38 = .ok (.iload 4, 2) := by decide +kernel
theorem dX5_edit_40 : decode cX5_edit 40 = .ok (.iconst 0, 1) := by decide +kernel
theorem dX5_edit_41 : decode cX5_edit 41 = .ok (.iconst 2, 1) := by decide +kernel
theorem dX5_edit_42 : decode cX5_edit 42 = .ok (.invokestatic 65, 3) := by decide +kernel
theorem dX5_edit_45 : decode cX5_edit 45 = .ok (.ifCond .ne 10, 3) := by decide +kernel
theorem dX5_edit_48 : decode cX5_edit 48 = .ok (.aload_n 0, 1) := by decide +kernel
theorem dX5_edit_49 : decode cX5_edit 49 = .ok (.iconst 2, 1) := by decide +kernel
theorem dX5_edit_50 : decode cX5_edit 50 = .ok (.putfield 61, 3) := by decide +kernel
theorem dX5_edit_53 : decode cX5_edit 53 = .ok (.iconst 0, 1) := by decide +kernel
theorem dX5_edit_54 : decode cX5_edit 54 = .ok (.ireturn, 1) := by decide +kernel
theorem dX5_edit_55 : decode cX5_edit 55 = .ok (.iload_n 3, 1) := by decide +kernel
theorem dX5_edit_56 : decode cX5_edit 56 = .ok (.aload_n 0, 1) := by decide +kernel
theorem dX5_edit_57 : decode cX5_edit 57 = .ok (.iload_n 2, 1) := by decide +kernel
theorem dX5_edit_58 : decode cX5_edit 58 = .ok (.invokevirtual 98, 3) := by decide +kernel
theorem dX5_edit_61 : decode cX5_edit 61 = .ok (.if_icmp .ne 20, 3) := by decide +kernel
theorem dX5_edit_64 : decode cX5_edit 64 = .ok (.iload 4, 2) := by decide +kernel
theorem dX5_edit_66 : decode cX5_edit 66 = .ok (.aload_n 0, 1) := by decide +kernel
theorem dX5_edit_67 : decode cX5_edit 67 = .ok (.iload_n 2, 1) := by decide +kernel
theorem dX5_edit_68 : decode cX5_edit 68 = .ok (.invokevirtual 101, 3) := by decide +kernel
theorem dX5_edit_71 : decode cX5_edit 71 = .ok (.if_icmp .ne 10, 3) := by decide +kernel
theorem dX5_edit_74 : decode cX5_edit 74 = .ok (.aload_n 0, 1) := by decide +kernel
theorem dX5_edit_75 : decode cX5_edit 75 = .ok (.iconst 3, 1) := by decide +kernel
theorem dX5_edit_76 : decode cX5_edit 76 = .ok (.putfield 61, 3) := by decide +kernel
theorem dX5_edit_79 : decode cX5_edit 79 = .ok (.iconst 0, 1) := by decide +kernel
theorem dX5_edit_80 : decode cX5_edit 80 = .ok (.ireturn, 1) := by decide +kernel
theorem dX5_edit_81 : decode cX5_edit 81 = .ok (.aload_n 0, 1) := by decide +kernel
theorem dX5_edit_82 : decode cX5_edit 82 = .ok (.getfield 7, 3) := by decide +kernel
theorem dX5_edit_85 : decode cX5_edit 85 = .ok (.iload_n 1, 1) := by decide +kernel
theorem dX5_edit_86 : decode cX5_edit 86 = .ok (.iaload, 1) := by decide +kernel
theorem dX5_edit_87 : decode cX5_edit 87 = .ok (.aload_n 0, 1) := by decide +kernel
theorem dX5_edit_88 : decode cX5_edit 88 = .ok (.getfield 25, 3) := by decide +kernel
theorem dX5_edit_91 : decode cX5_edit 91 = .ok (.iload_n 2, 1) := by decide +kernel
theorem dX5_edit_92 : decode cX5_edit 92 = .ok (.iaload, 1) := by decide +kernel
theorem dX5_edit_93 : decode cX5_edit 93 = .ok (.if_icmp .lt 7, 3) := by decide +kernel
theorem dX5_edit_96 : decode cX5_edit 96 = .ok (.iconst 1, 1) := by decide +kernel
theorem dX5_edit_97 : decode cX5_edit 97 = .ok (.goto 4, 3) := by decide +kernel
theorem dX5_edit_100 : decode cX5_edit 100 = .ok (.iconst 0, 1) := by decide +kernel
theorem dX5_edit_101 : decode cX5_edit 101 = .ok (.istore 5, 2) := by decide +kernel
theorem dX5_edit_103 : decode cX5_edit 103 = .ok (.iload 5, 2) := by decide +kernel
theorem dX5_edit_105 : decode cX5_edit 105 = .ok (.ifCond .eq 15, 3) := by decide +kernel
theorem dX5_edit_108 : decode cX5_edit 108 = .ok (.aload_n 0, 1) := by decide +kernel
theorem dX5_edit_109 : decode cX5_edit 109 = .ok (.iload_n 2, 1) := by decide +kernel
theorem dX5_edit_110 : decode cX5_edit 110 = .ok (.iload_n 3, 1) := by decide +kernel
theorem dX5_edit_111 : decode cX5_edit 111 = .ok (.iload 4, 2) := by decide +kernel
theorem dX5_edit_113 : decode cX5_edit 113 = .ok (.iload_n 1, 1) := by decide +kernel
theorem dX5_edit_114 : decode cX5_edit 114 = .ok (.invokevirtual 91, 3) := by decide +kernel
theorem dX5_edit_117 : decode cX5_edit 117 = .ok (.goto 23, 3) := by decide +kernel
theorem dX5_edit_120 : decode cX5_edit 120 = .ok (.aload_n 0, 1) := by decide +kernel
theorem dX5_edit_121 : decode cX5_edit 121 = .ok (.getfield 34, 3) := by decide +kernel
theorem dX5_edit_124 : decode cX5_edit 124 = .ok (.iload_n 2, 1) := by decide +kernel
theorem dX5_edit_125 : decode cX5_edit 125 = .ok (.bipush 100, 2) := by decide +kernel
theorem dX5_edit_127 : decode cX5_edit 127 = .ok (.iload_n 3, 1) := by decide +kernel
theorem dX5_edit_128 : decode cX5_edit 128 = .ok (.imul, 1) := by decide +kernel
theorem dX5_edit_129 : decode cX5_edit 129 = .ok (.bipush 10, 2) := by decide +kernel
theorem dX5_edit_131 : decode cX5_edit 131 = .ok (.iload 4, 2) := by decide +kernel
theorem dX5_edit_133 : decode cX5_edit 133 = .ok (.imul, 1) := by decide +kernel
theorem dX5_edit_134 : decode cX5_edit 134 = .ok (.iadd, 1) := by decide +kernel
theorem dX5_edit_135 : decode cX5_edit 135 = .ok (.iload_n 1, 1) := by decide +kernel
theorem dX5_edit_136 : decode cX5_edit 136 = .ok (.iadd, 1) := by decide +kernel
theorem dX5_edit_137 : decode cX5_edit 137 = .ok (.iconst 1, 1) := by decide +kernel
theorem dX5_edit_138 : decode cX5_edit 138 = .ok (.iadd, 1) := by decide +kernel
theorem dX5_edit_139 : decode cX5_edit 139 = .ok (.iastore, 1) := by decide +kernel
theorem dX5_edit_140 : decode cX5_edit 140 = .ok (.iload 5, 2) := by decide +kernel
theorem dX5_edit_142 : decode cX5_edit 142 = .ok (.ireturn, 1) := by decide +kernel
theorem dX5_trusts_0 : decode cX5_trusts 0 = .ok (.aload_n 0, 1) := by decide +kernel
theorem dX5_trusts_1 : decode cX5_trusts 1 = .ok (.getfield 7, 3) := by decide +kernel
theorem dX5_trusts_4 : decode cX5_trusts 4 = .ok (.iload_n 1, 1) := by decide +kernel
theorem dX5_trusts_5 : decode cX5_trusts 5 = .ok (.iaload, 1) := by decide +kernel
theorem dX5_trusts_6 : decode cX5_trusts 6 = .ok (.iload_n 2, 1) := by decide +kernel
theorem dX5_trusts_7 : decode cX5_trusts 7 = .ok (.iadd, 1) := by decide +kernel
theorem dX5_trusts_8 : decode cX5_trusts 8 = .ok (.istore_n 3, 1) := by decide +kernel
theorem dX5_trusts_9 : decode cX5_trusts 9 = .ok (.aload_n 0, 1) := by decide +kernel
theorem dX5_trusts_10 : decode cX5_trusts 10 = .ok (.getfield 7, 3) := by decide +kernel
theorem dX5_trusts_13 : decode cX5_trusts 13 = .ok (.iload_n 1, 1) := by decide +kernel
theorem dX5_trusts_14 : decode cX5_trusts 14 = .ok (.iload_n 3, 1) := by decide +kernel
theorem dX5_trusts_15 : decode cX5_trusts 15 = .ok (.ifCond .ge 7, 3) := by decide +kernel
theorem dX5_trusts_18 : decode cX5_trusts 18 = .ok (.iconst 0, 1) := by decide +kernel
theorem dX5_trusts_19 : decode cX5_trusts 19 = .ok (.goto 15, 3) := by decide +kernel
theorem dX5_trusts_22 : decode cX5_trusts 22 = .ok (.iload_n 3, 1) := by decide +kernel
theorem dX5_trusts_23 : decode cX5_trusts 23 = .ok (.bipush 100, 2) := by decide +kernel
theorem dX5_trusts_25 : decode cX5_trusts 25 = .ok (.if_icmp .le 8, 3) := by decide +kernel
theorem dX5_trusts_28 : decode cX5_trusts 28 = .ok (.bipush 100, 2) := by decide +kernel
theorem dX5_trusts_30 : decode cX5_trusts 30 = .ok (.goto 4, 3) := by decide +kernel
theorem dX5_trusts_33 : decode cX5_trusts 33 = .ok (.iload_n 3, 1) := by decide +kernel
theorem dX5_trusts_34 : decode cX5_trusts 34 = .ok (.iastore, 1) := by decide +kernel
theorem dX5_trusts_35 : decode cX5_trusts 35 = .ok (.return_, 1) := by decide +kernel
set_option maxRecDepth 20000 in
theorem ggX5_judge_X5_isEditor : GoodIn wsX5_judge wsX5_isEditor := goodIn_r _ [7] (by decide +kernel) (by decide +kernel)
set_option maxRecDepth 20000 in
theorem gX5_judge_X5_isEditor : GoodIn wsX5_judge (va_wsS RX5 75 yX5_isEditor wsX5_isEditor) := goodIn_app (goodIn_of _ (by decide +kernel)) ggX5_judge_X5_isEditor
set_option maxRecDepth 20000 in
theorem ggX5_judge_X5_isWay : GoodIn wsX5_judge wsX5_isWay := goodIn_r _ [11, 12, 35, 36, 37, 38, 39, 40, 41, 42, 43, 44, 45, 46, 47, 48, 49, 50, 51, 52, 53, 54] (by decide +kernel) (by decide +kernel)
set_option maxRecDepth 20000 in
theorem gX5_judge_X5_isWay : GoodIn wsX5_judge (wsV RX5 95 RX5 yX5_isWay wsX5_isWay) := goodIn_app (goodIn_of _ (by decide +kernel)) ggX5_judge_X5_isWay
set_option maxRecDepth 20000 in
theorem ggX5_judge_X5_asks : GoodIn wsX5_judge wsX5_asks := goodIn_r _ [16, 17, 35, 36, 37, 38, 39, 40, 41, 42, 43, 44, 45, 46, 47, 48, 49, 50, 51, 52, 53, 54] (by decide +kernel) (by decide +kernel)
set_option maxRecDepth 20000 in
theorem gX5_judge_X5_asks : GoodIn wsX5_judge (wsV RX5 83 RX5 yX5_asks wsX5_asks) := goodIn_app (goodIn_of _ (by decide +kernel)) ggX5_judge_X5_asks
set_option maxRecDepth 20000 in
theorem ggX5_judge_X5_fails : GoodIn wsX5_judge wsX5_fails := goodIn_r _ [21, 17, 35, 36, 37, 38, 39, 40, 41, 42, 43, 44, 45, 46, 47, 48, 49, 50, 51, 52, 53, 54] (by decide +kernel) (by decide +kernel)
set_option maxRecDepth 20000 in
theorem gX5_judge_X5_fails : GoodIn wsX5_judge (wsV RX5 87 RX5 yX5_fails wsX5_fails) := goodIn_app (goodIn_of _ (by decide +kernel)) ggX5_judge_X5_fails
set_option maxRecDepth 20000 in
theorem ggX5_judge_X5_trusts : GoodIn wsX5_judge wsX5_trusts := goodIn_r _ [25, 2, 35, 36, 37, 38, 39, 40, 41, 42, 43, 44, 45, 46, 47, 48, 49, 50, 51, 52, 53, 54] (by decide +kernel) (by decide +kernel)
set_option maxRecDepth 20000 in
theorem gX5_judge_X5_trusts : GoodIn wsX5_judge (wsV RX5 104 RX5 yX5_trusts wsX5_trusts) := goodIn_app (goodIn_of _ (by decide +kernel)) ggX5_judge_X5_trusts
set_option maxRecDepth 20000 in
theorem ggX5_judge_X5_makes : GoodIn wsX5_judge wsX5_makes := goodIn_r _ [29, 30, 31, 32, 33, 34, 1, 35, 36, 37, 38, 39, 40, 41, 42, 43, 44, 45, 46, 47, 48, 49, 50, 51, 52, 53, 54] (by decide +kernel) (by decide +kernel)
set_option maxRecDepth 20000 in
theorem gX5_judge_X5_makes : GoodIn wsX5_judge (wsV RX5 91 RX5 yX5_makes wsX5_makes) := goodIn_app (goodIn_of _ (by decide +kernel)) ggX5_judge_X5_makes
theorem dX5_judge_0 : decode cX5_judge 0 = .ok (.aload_n 0, 1) := by decide +kernel
theorem dX5_judge_1 : decode cX5_judge 1 = .ok (.iload_n 1, 1) := by decide +kernel
theorem dX5_judge_2 : decode cX5_judge 2 = .ok (.invokestatic 75, 3) := by decide +kernel
theorem dX5_judge_5 : decode cX5_judge 5 = .ok (.ifCond .eq 15, 3) := by decide +kernel
theorem dX5_judge_8 : decode cX5_judge 8 = .ok (.aload_n 0, 1) := by decide +kernel
theorem dX5_judge_9 : decode cX5_judge 9 = .ok (.iload_n 2, 1) := by decide +kernel
theorem dX5_judge_10 : decode cX5_judge 10 = .ok (.invokevirtual 95, 3) := by decide +kernel
theorem dX5_judge_13 : decode cX5_judge 13 = .ok (.ifCond .eq 7, 3) := by decide +kernel
theorem dX5_judge_16 : decode cX5_judge 16 = .ok (.iconst 1, 1) := by decide +kernel
theorem dX5_judge_17 : decode cX5_judge 17 = .ok (.goto 4, 3) := by decide +kernel
theorem dX5_judge_20 : decode cX5_judge 20 = .ok (.iconst 0, 1) := by decide +kernel
theorem dX5_judge_21 : decode cX5_judge 21 = .ok (.invokevirtual 83, 3) := by decide +kernel
theorem dX5_judge_24 : decode cX5_judge 24 = .ok (.ifCond .ne 5, 3) := by decide +kernel
theorem dX5_judge_27 : decode cX5_judge 27 = .ok (.iconst 0, 1) := by decide +kernel
theorem dX5_judge_28 : decode cX5_judge 28 = .ok (.ireturn, 1) := by decide +kernel
theorem dX5_judge_29 : decode cX5_judge 29 = .ok (.aload_n 0, 1) := by decide +kernel
theorem dX5_judge_30 : decode cX5_judge 30 = .ok (.getfield 34, 3) := by decide +kernel
theorem dX5_judge_33 : decode cX5_judge 33 = .ok (.iload_n 2, 1) := by decide +kernel
theorem dX5_judge_34 : decode cX5_judge 34 = .ok (.iaload, 1) := by decide +kernel
theorem dX5_judge_35 : decode cX5_judge 35 = .ok (.istore 4, 2) := by decide +kernel
theorem dX5_judge_37 : decode cX5_judge 37 = .ok (.iload 4, 2) := by decide +kernel
theorem dX5_judge_39 : decode cX5_judge 39 = .ok (.bipush 10, 2) := by decide +kernel
theorem dX5_judge_41 : decode cX5_judge 41 = .ok (.irem, 1) := by decide +kernel
theorem dX5_judge_42 : decode cX5_judge 42 = .ok (.iconst 1, 1) := by decide +kernel
theorem dX5_judge_43 : decode cX5_judge 43 = .ok (.isub, 1) := by decide +kernel
theorem dX5_judge_44 : decode cX5_judge 44 = .ok (.istore 5, 2) := by decide +kernel
theorem dX5_judge_46 : decode cX5_judge 46 = .ok (.iload 4, 2) := by decide +kernel
theorem dX5_judge_48 : decode cX5_judge 48 = .ok (.iconst (-1), 1) := by decide +kernel
theorem dX5_judge_49 : decode cX5_judge 49 = .ok (.if_icmp .eq 24, 3) := by decide +kernel
theorem dX5_judge_52 : decode cX5_judge 52 = .ok (.iload 5, 2) := by decide +kernel
theorem dX5_judge_54 : decode cX5_judge 54 = .ok (.iload_n 1, 1) := by decide +kernel
theorem dX5_judge_55 : decode cX5_judge 55 = .ok (.if_icmp .eq 18, 3) := by decide +kernel
theorem dX5_judge_58 : decode cX5_judge 58 = .ok (.aload_n 0, 1) := by decide +kernel
theorem dX5_judge_59 : decode cX5_judge 59 = .ok (.getfield 7, 3) := by decide +kernel
theorem dX5_judge_62 : decode cX5_judge 62 = .ok (.iload_n 1, 1) := by decide +kernel
theorem dX5_judge_63 : decode cX5_judge 63 = .ok (.iaload, 1) := by decide +kernel
theorem dX5_judge_64 : decode cX5_judge 64 = .ok (.aload_n 0, 1) := by decide +kernel
theorem dX5_judge_65 : decode cX5_judge 65 = .ok (.getfield 25, 3) := by decide +kernel
theorem dX5_judge_68 : decode cX5_judge 68 = .ok (.iload_n 2, 1) := by decide +kernel
theorem dX5_judge_69 : decode cX5_judge 69 = .ok (.iaload, 1) := by decide +kernel
theorem dX5_judge_70 : decode cX5_judge 70 = .ok (.if_icmp .ge 9, 3) := by decide +kernel
theorem dX5_judge_73 : decode cX5_judge 73 = .ok (.aload_n 0, 1) := by decide +kernel
theorem dX5_judge_74 : decode cX5_judge 74 = .ok (.iconst 2, 1) := by decide +kernel
theorem dX5_judge_75 : decode cX5_judge 75 = .ok (.invokevirtual 87, 3) := by decide +kernel
theorem dX5_judge_78 : decode cX5_judge 78 = .ok (.ireturn, 1) := by decide +kernel
theorem dX5_judge_79 : decode cX5_judge 79 = .ok (.iload_n 3, 1) := by decide +kernel
theorem dX5_judge_80 : decode cX5_judge 80 = .ok (.ifCond .eq 21, 3) := by decide +kernel
theorem dX5_judge_83 : decode cX5_judge 83 = .ok (.aload_n 0, 1) := by decide +kernel
theorem dX5_judge_84 : decode cX5_judge 84 = .ok (.getfield 34, 3) := by decide +kernel
theorem dX5_judge_87 : decode cX5_judge 87 = .ok (.iload_n 2, 1) := by decide +kernel
theorem dX5_judge_88 : decode cX5_judge 88 = .ok (.iconst (-1), 1) := by decide +kernel
theorem dX5_judge_89 : decode cX5_judge 89 = .ok (.iastore, 1) := by decide +kernel
theorem dX5_judge_90 : decode cX5_judge 90 = .ok (.aload_n 0, 1) := by decide +kernel
theorem dX5_judge_91 : decode cX5_judge 91 = .ok (.iload 5, 2) := by decide +kernel
theorem dX5_judge_93 : decode cX5_judge 93 = .ok (.bipush (-5), 2) := by decide +kernel
theorem dX5_judge_95 : decode cX5_judge 95 = .ok (.invokevirtual 104, 3) := by decide +kernel
theorem dX5_judge_98 : decode cX5_judge 98 = .ok (.goto 30, 3) := by decide +kernel
theorem dX5_judge_101 : decode cX5_judge 101 = .ok (.aload_n 0, 1) := by decide +kernel
theorem dX5_judge_102 : decode cX5_judge 102 = .ok (.iload_n 2, 1) := by decide +kernel
theorem dX5_judge_103 : decode cX5_judge 103 = .ok (.iload 4, 2) := by decide +kernel
theorem dX5_judge_105 : decode cX5_judge 105 = .ok (.bipush 100, 2) := by decide +kernel
theorem dX5_judge_107 : decode cX5_judge 107 = .ok (.idiv, 1) := by decide +kernel
theorem dX5_judge_108 : decode cX5_judge 108 = .ok (.iload 4, 2) := by decide +kernel
theorem dX5_judge_110 : decode cX5_judge 110 = .ok (.bipush 100, 2) := by decide +kernel
theorem dX5_judge_112 : decode cX5_judge 112 = .ok (.irem, 1) := by decide +kernel
theorem dX5_judge_113 : decode cX5_judge 113 = .ok (.bipush 10, 2) := by decide +kernel
theorem dX5_judge_115 : decode cX5_judge 115 = .ok (.idiv, 1) := by decide +kernel
theorem dX5_judge_116 : decode cX5_judge 116 = .ok (.iload 5, 2) := by decide +kernel
theorem dX5_judge_118 : decode cX5_judge 118 = .ok (.invokevirtual 91, 3) := by decide +kernel
theorem dX5_judge_121 : decode cX5_judge 121 = .ok (.aload_n 0, 1) := by decide +kernel
theorem dX5_judge_122 : decode cX5_judge 122 = .ok (.iload 5, 2) := by decide +kernel
theorem dX5_judge_124 : decode cX5_judge 124 = .ok (.iconst 5, 1) := by decide +kernel
theorem dX5_judge_125 : decode cX5_judge 125 = .ok (.invokevirtual 104, 3) := by decide +kernel
theorem dX5_judge_128 : decode cX5_judge 128 = .ok (.aload_n 0, 1) := by decide +kernel
theorem dX5_judge_129 : decode cX5_judge 129 = .ok (.getfield 7, 3) := by decide +kernel
theorem dX5_judge_132 : decode cX5_judge 132 = .ok (.iload 5, 2) := by decide +kernel
theorem dX5_judge_134 : decode cX5_judge 134 = .ok (.iaload, 1) := by decide +kernel
theorem dX5_judge_135 : decode cX5_judge 135 = .ok (.ireturn, 1) := by decide +kernel
set_option maxRecDepth 20000 in
theorem ggX5_revert_X5_isEditor : GoodIn wsX5_revert wsX5_isEditor := goodIn_r _ [9] (by decide +kernel) (by decide +kernel)
set_option maxRecDepth 20000 in
theorem gX5_revert_X5_isEditor : GoodIn wsX5_revert (va_wsS RX5 75 yX5_isEditor wsX5_isEditor) := goodIn_app (goodIn_of _ (by decide +kernel)) ggX5_revert_X5_isEditor
set_option maxRecDepth 20000 in
theorem ggX5_revert_X5_isWay : GoodIn wsX5_revert wsX5_isWay := goodIn_r _ [13, 14, 34, 35, 36, 37, 38, 39, 40, 41, 42, 43, 44, 45, 46, 47, 48, 49, 50, 51, 52, 53] (by decide +kernel) (by decide +kernel)
set_option maxRecDepth 20000 in
theorem gX5_revert_X5_isWay : GoodIn wsX5_revert (wsV RX5 95 RX5 yX5_isWay wsX5_isWay) := goodIn_app (goodIn_of _ (by decide +kernel)) ggX5_revert_X5_isWay
set_option maxRecDepth 20000 in
theorem ggX5_revert_X5_asks : GoodIn wsX5_revert wsX5_asks := goodIn_r _ [18, 19, 34, 35, 36, 37, 38, 39, 40, 41, 42, 43, 44, 45, 46, 47, 48, 49, 50, 51, 52, 53] (by decide +kernel) (by decide +kernel)
set_option maxRecDepth 20000 in
theorem gX5_revert_X5_asks : GoodIn wsX5_revert (wsV RX5 83 RX5 yX5_asks wsX5_asks) := goodIn_app (goodIn_of _ (by decide +kernel)) ggX5_revert_X5_asks
set_option maxRecDepth 20000 in
theorem ggX5_revert_X5_fails : GoodIn wsX5_revert wsX5_fails := goodIn_r _ [23, 19, 34, 35, 36, 37, 38, 39, 40, 41, 42, 43, 44, 45, 46, 47, 48, 49, 50, 51, 52, 53] (by decide +kernel) (by decide +kernel)
set_option maxRecDepth 20000 in
theorem gX5_revert_X5_fails : GoodIn wsX5_revert (wsV RX5 87 RX5 yX5_fails wsX5_fails) := goodIn_app (goodIn_of _ (by decide +kernel)) ggX5_revert_X5_fails
set_option maxRecDepth 20000 in
theorem ggX5_revert_X5_makes : GoodIn wsX5_revert wsX5_makes := goodIn_r _ [27, 1, 28, 5, 3, 2, 29, 34, 35, 36, 37, 38, 39, 40, 41, 42, 43, 44, 45, 46, 47, 48, 49, 50, 51, 52, 53] (by decide +kernel) (by decide +kernel)
set_option maxRecDepth 20000 in
theorem gX5_revert_X5_makes : GoodIn wsX5_revert (wsV RX5 91 RX5 yX5_makes wsX5_makes) := goodIn_app (goodIn_of _ (by decide +kernel)) ggX5_revert_X5_makes
set_option maxRecDepth 20000 in
theorem ggX5_revert_X5_trusts : GoodIn wsX5_revert wsX5_trusts := goodIn_r _ [33, 4, 34, 35, 36, 37, 38, 39, 40, 41, 42, 43, 44, 45, 46, 47, 48, 49, 50, 51, 52, 53] (by decide +kernel) (by decide +kernel)
set_option maxRecDepth 20000 in
theorem gX5_revert_X5_trusts : GoodIn wsX5_revert (wsV RX5 104 RX5 yX5_trusts wsX5_trusts) := goodIn_app (goodIn_of _ (by decide +kernel)) ggX5_revert_X5_trusts
theorem dX5_revert_0 : decode cX5_revert 0 = .ok (.aload_n 0, 1) := by decide +kernel
theorem dX5_revert_1 : decode cX5_revert 1 = .ok (.iload_n 1, 1) := by decide +kernel
theorem dX5_revert_2 : decode cX5_revert 2 = .ok (.invokestatic 75, 3) := by decide +kernel
theorem dX5_revert_5 : decode cX5_revert 5 = .ok (.ifCond .eq 15, 3) := by decide +kernel
theorem dX5_revert_8 : decode cX5_revert 8 = .ok (.aload_n 0, 1) := by decide +kernel
theorem dX5_revert_9 : decode cX5_revert 9 = .ok (.iload_n 2, 1) := by decide +kernel
theorem dX5_revert_10 : decode cX5_revert 10 = .ok (.invokevirtual 95, 3) := by decide +kernel
theorem dX5_revert_13 : decode cX5_revert 13 = .ok (.ifCond .eq 7, 3) := by decide +kernel
theorem dX5_revert_16 : decode cX5_revert 16 = .ok (.iconst 1, 1) := by decide +kernel
theorem dX5_revert_17 : decode cX5_revert 17 = .ok (.goto 4, 3) := by decide +kernel
theorem dX5_revert_20 : decode cX5_revert 20 = .ok (.iconst 0, 1) := by decide +kernel
theorem dX5_revert_21 : decode cX5_revert 21 = .ok (.invokevirtual 83, 3) := by decide +kernel
theorem dX5_revert_24 : decode cX5_revert 24 = .ok (.ifCond .ne 5, 3) := by decide +kernel
theorem dX5_revert_27 : decode cX5_revert 27 = .ok (.iconst 0, 1) := by decide +kernel
theorem dX5_revert_28 : decode cX5_revert 28 = .ok (.ireturn, 1) := by decide +kernel
theorem dX5_revert_29 : decode cX5_revert 29 = .ok (.aload_n 0, 1) := by decide +kernel
theorem dX5_revert_30 : decode cX5_revert 30 = .ok (.getfield 37, 3) := by decide +kernel
theorem dX5_revert_33 : decode cX5_revert 33 = .ok (.aload_n 0, 1) := by decide +kernel
theorem dX5_revert_34 : decode cX5_revert 34 = .ok (.getfield 31, 3) := by decide +kernel
theorem dX5_revert_37 : decode cX5_revert 37 = .ok (.iload_n 2, 1) := by decide +kernel
theorem dX5_revert_38 : decode cX5_revert 38 = .ok (.iaload, 1) := by decide +kernel
theorem dX5_revert_39 : decode cX5_revert 39 = .ok (.iaload, 1) := by decide +kernel
theorem dX5_revert_40 : decode cX5_revert 40 = .ok (.bipush 10, 2) := by decide +kernel
theorem dX5_revert_42 : decode cX5_revert 42 = .ok (.irem, 1) := by decide +kernel
theorem dX5_revert_43 : decode cX5_revert 43 = .ok (.iconst 1, 1) := by decide +kernel
theorem dX5_revert_44 : decode cX5_revert 44 = .ok (.isub, 1) := by decide +kernel
theorem dX5_revert_45 : decode cX5_revert 45 = .ok (.istore_n 3, 1) := by decide +kernel
theorem dX5_revert_46 : decode cX5_revert 46 = .ok (.aload_n 0, 1) := by decide +kernel
theorem dX5_revert_47 : decode cX5_revert 47 = .ok (.getfield 28, 3) := by decide +kernel
theorem dX5_revert_50 : decode cX5_revert 50 = .ok (.iload_n 2, 1) := by decide +kernel
theorem dX5_revert_51 : decode cX5_revert 51 = .ok (.iaload, 1) := by decide +kernel
theorem dX5_revert_52 : decode cX5_revert 52 = .ok (.iconst 2, 1) := by decide +kernel
theorem dX5_revert_53 : decode cX5_revert 53 = .ok (.if_icmp .lt 28, 3) := by decide +kernel
theorem dX5_revert_56 : decode cX5_revert 56 = .ok (.iload_n 3, 1) := by decide +kernel
theorem dX5_revert_57 : decode cX5_revert 57 = .ok (.iconst (-1), 1) := by decide +kernel
theorem dX5_revert_58 : decode cX5_revert 58 = .ok (.if_icmp .eq 23, 3) := by decide +kernel
theorem dX5_revert_61 : decode cX5_revert 61 = .ok (.iload_n 3, 1) := by decide +kernel
theorem dX5_revert_62 : decode cX5_revert 62 = .ok (.iload_n 1, 1) := by decide +kernel
theorem dX5_revert_63 : decode cX5_revert 63 = .ok (.if_icmp .eq 18, 3) := by decide +kernel
theorem dX5_revert_66 : decode cX5_revert 66 = .ok (.aload_n 0, 1) := by decide +kernel
theorem dX5_revert_67 : decode cX5_revert 67 = .ok (.getfield 7, 3) := by decide +kernel
theorem dX5_revert_70 : decode cX5_revert 70 = .ok (.iload_n 1, 1) := by decide +kernel
theorem dX5_revert_71 : decode cX5_revert 71 = .ok (.iaload, 1) := by decide +kernel
theorem dX5_revert_72 : decode cX5_revert 72 = .ok (.aload_n 0, 1) := by decide +kernel
theorem dX5_revert_73 : decode cX5_revert 73 = .ok (.getfield 7, 3) := by decide +kernel
theorem dX5_revert_76 : decode cX5_revert 76 = .ok (.iload_n 3, 1) := by decide +kernel
theorem dX5_revert_77 : decode cX5_revert 77 = .ok (.iaload, 1) := by decide +kernel
theorem dX5_revert_78 : decode cX5_revert 78 = .ok (.if_icmp .gt 9, 3) := by decide +kernel
theorem dX5_revert_81 : decode cX5_revert 81 = .ok (.aload_n 0, 1) := by decide +kernel
theorem dX5_revert_82 : decode cX5_revert 82 = .ok (.iconst 2, 1) := by decide +kernel
theorem dX5_revert_83 : decode cX5_revert 83 = .ok (.invokevirtual 87, 3) := by decide +kernel
theorem dX5_revert_86 : decode cX5_revert 86 = .ok (.ireturn, 1) := by decide +kernel
theorem dX5_revert_87 : decode cX5_revert 87 = .ok (.aload_n 0, 1) := by decide +kernel
theorem dX5_revert_88 : decode cX5_revert 88 = .ok (.getfield 37, 3) := by decide +kernel
theorem dX5_revert_91 : decode cX5_revert 91 = .ok (.aload_n 0, 1) := by decide +kernel
theorem dX5_revert_92 : decode cX5_revert 92 = .ok (.getfield 40, 3) := by decide +kernel
theorem dX5_revert_95 : decode cX5_revert 95 = .ok (.aload_n 0, 1) := by decide +kernel
theorem dX5_revert_96 : decode cX5_revert 96 = .ok (.getfield 31, 3) := by decide +kernel
theorem dX5_revert_99 : decode cX5_revert 99 = .ok (.iload_n 2, 1) := by decide +kernel
theorem dX5_revert_100 : decode cX5_revert 100 = .ok (.iaload, 1) := by decide +kernel
theorem dX5_revert_101 : decode cX5_revert 101 = .ok (.iaload, 1) := by decide +kernel
theorem dX5_revert_102 : decode cX5_revert 102 = .ok (.iaload, 1) := by decide +kernel
theorem dX5_revert_103 : decode cX5_revert 103 = .ok (.istore 4, 2) := by decide +kernel
theorem dX5_revert_105 : decode cX5_revert 105 = .ok (.aload_n 0, 1) := by decide +kernel
theorem dX5_revert_106 : decode cX5_revert 106 = .ok (.iload_n 2, 1) := by decide +kernel
theorem dX5_revert_107 : decode cX5_revert 107 = .ok (.iload 4, 2) := by decide +kernel
theorem dX5_revert_109 : decode cX5_revert 109 = .ok (.sipush 1000, 3) := by decide +kernel
theorem dX5_revert_112 : decode cX5_revert 112 = .ok (.irem, 1) := by decide +kernel
theorem dX5_revert_113 : decode cX5_revert 113 = .ok (.bipush 100, 2) := by decide +kernel
theorem dX5_revert_115 : decode cX5_revert 115 = .ok (.idiv, 1) := by decide +kernel
theorem dX5_revert_116 : decode cX5_revert 116 = .ok (.iload 4, 2) := by decide +kernel
theorem dX5_revert_118 : decode cX5_revert 118 = .ok (.bipush 100, 2) := by decide +kernel
theorem dX5_revert_120 : decode cX5_revert 120 = .ok (.irem, 1) := by decide +kernel
theorem dX5_revert_121 : decode cX5_revert 121 = .ok (.bipush 10, 2) := by decide +kernel
theorem dX5_revert_123 : decode cX5_revert 123 = .ok (.idiv, 1) := by decide +kernel
theorem dX5_revert_124 : decode cX5_revert 124 = .ok (.iload_n 1, 1) := by decide +kernel
theorem dX5_revert_125 : decode cX5_revert 125 = .ok (.invokevirtual 91, 3) := by decide +kernel
theorem dX5_revert_128 : decode cX5_revert 128 = .ok (.aload_n 0, 1) := by decide +kernel
theorem dX5_revert_129 : decode cX5_revert 129 = .ok (.iload_n 3, 1) := by decide +kernel
theorem dX5_revert_130 : decode cX5_revert 130 = .ok (.bipush (-10), 2) := by decide +kernel
theorem dX5_revert_132 : decode cX5_revert 132 = .ok (.invokevirtual 104, 3) := by decide +kernel
theorem dX5_revert_135 : decode cX5_revert 135 = .ok (.aload_n 0, 1) := by decide +kernel
theorem dX5_revert_136 : decode cX5_revert 136 = .ok (.getfield 7, 3) := by decide +kernel
theorem dX5_revert_139 : decode cX5_revert 139 = .ok (.iload_n 3, 1) := by decide +kernel
theorem dX5_revert_140 : decode cX5_revert 140 = .ok (.iaload, 1) := by decide +kernel
theorem dX5_revert_141 : decode cX5_revert 141 = .ok (.ireturn, 1) := by decide +kernel
set_option maxRecDepth 20000 in
theorem ggX5_guard_X5_isWay : GoodIn wsX5_guard wsX5_isWay := goodIn_r _ [6, 7, 20, 21, 22, 23, 24, 25, 26, 27, 28, 29, 30, 31, 32, 33, 34, 35, 36, 37, 38, 39] (by decide +kernel) (by decide +kernel)
set_option maxRecDepth 20000 in
theorem gX5_guard_X5_isWay : GoodIn wsX5_guard (wsV RX5 95 RX5 yX5_isWay wsX5_isWay) := goodIn_app (goodIn_of _ (by decide +kernel)) ggX5_guard_X5_isWay
set_option maxRecDepth 20000 in
theorem ggX5_guard_X5_asks : GoodIn wsX5_guard wsX5_asks := goodIn_r _ [11, 12, 20, 21, 22, 23, 24, 25, 26, 27, 28, 29, 30, 31, 32, 33, 34, 35, 36, 37, 38, 39] (by decide +kernel) (by decide +kernel)
set_option maxRecDepth 20000 in
theorem gX5_guard_X5_asks : GoodIn wsX5_guard (wsV RX5 83 RX5 yX5_asks wsX5_asks) := goodIn_app (goodIn_of _ (by decide +kernel)) ggX5_guard_X5_asks
set_option maxRecDepth 20000 in
theorem ggX5_guard_X5_in : GoodIn wsX5_guard wsX5_in := goodIn_r _ [15] (by decide +kernel) (by decide +kernel)
set_option maxRecDepth 20000 in
theorem gX5_guard_X5_in : GoodIn wsX5_guard (va_wsS RX5 65 yX5_in wsX5_in) := goodIn_app (goodIn_of _ (by decide +kernel)) ggX5_guard_X5_in
set_option maxRecDepth 20000 in
theorem ggX5_guard_X5_fails : GoodIn wsX5_guard wsX5_fails := goodIn_r _ [19, 12, 20, 21, 22, 23, 24, 25, 26, 27, 28, 29, 30, 31, 32, 33, 34, 35, 36, 37, 38, 39] (by decide +kernel) (by decide +kernel)
set_option maxRecDepth 20000 in
theorem gX5_guard_X5_fails : GoodIn wsX5_guard (wsV RX5 87 RX5 yX5_fails wsX5_fails) := goodIn_app (goodIn_of _ (by decide +kernel)) ggX5_guard_X5_fails
theorem dX5_guard_0 : decode cX5_guard 0 = .ok (.aload_n 0, 1) := by decide +kernel
theorem dX5_guard_1 : decode cX5_guard 1 = .ok (.aload_n 0, 1) := by decide +kernel
theorem dX5_guard_2 : decode cX5_guard 2 = .ok (.iload_n 1, 1) := by decide +kernel
theorem dX5_guard_3 : decode cX5_guard 3 = .ok (.invokevirtual 95, 3) := by decide +kernel
theorem dX5_guard_6 : decode cX5_guard 6 = .ok (.invokevirtual 83, 3) := by decide +kernel
theorem dX5_guard_9 : decode cX5_guard 9 = .ok (.ifCond .ne 5, 3) := by decide +kernel
theorem dX5_guard_12 : decode cX5_guard 12 = .ok (.iconst 0, 1) := by decide +kernel
theorem dX5_guard_13 : decode cX5_guard 13 = .ok (.ireturn, 1) := by decide +kernel
theorem dX5_guard_14 : decode cX5_guard 14 = .ok (.iload_n 2, 1) := by decide +kernel
theorem dX5_guard_15 : decode cX5_guard 15 = .ok (.iconst 0, 1) := by decide +kernel
theorem dX5_guard_16 : decode cX5_guard 16 = .ok (.bipush 100, 2) := by decide +kernel
theorem dX5_guard_18 : decode cX5_guard 18 = .ok (.invokestatic 65, 3) := by decide +kernel
theorem dX5_guard_21 : decode cX5_guard 21 = .ok (.ifCond .ne 9, 3) := by decide +kernel
theorem dX5_guard_24 : decode cX5_guard 24 = .ok (.aload_n 0, 1) := by decide +kernel
theorem dX5_guard_25 : decode cX5_guard 25 = .ok (.iconst 2, 1) := by decide +kernel
theorem dX5_guard_26 : decode cX5_guard 26 = .ok (.invokevirtual 87, 3) := by decide +kernel
theorem dX5_guard_29 : decode cX5_guard 29 = .ok (.ireturn, 1) := by decide +kernel
theorem dX5_guard_30 : decode cX5_guard 30 = .ok (.aload_n 0, 1) := by decide +kernel
theorem dX5_guard_31 : decode cX5_guard 31 = .ok (.getfield 25, 3) := by decide +kernel
theorem dX5_guard_34 : decode cX5_guard 34 = .ok (.iload_n 1, 1) := by decide +kernel
theorem dX5_guard_35 : decode cX5_guard 35 = .ok (.iaload, 1) := by decide +kernel
theorem dX5_guard_36 : decode cX5_guard 36 = .ok (.istore_n 3, 1) := by decide +kernel
theorem dX5_guard_37 : decode cX5_guard 37 = .ok (.aload_n 0, 1) := by decide +kernel
theorem dX5_guard_38 : decode cX5_guard 38 = .ok (.getfield 25, 3) := by decide +kernel
theorem dX5_guard_41 : decode cX5_guard 41 = .ok (.iload_n 1, 1) := by decide +kernel
theorem dX5_guard_42 : decode cX5_guard 42 = .ok (.iload_n 2, 1) := by decide +kernel
theorem dX5_guard_43 : decode cX5_guard 43 = .ok (.iastore, 1) := by decide +kernel
theorem dX5_guard_44 : decode cX5_guard 44 = .ok (.iload_n 3, 1) := by decide +kernel
theorem dX5_guard_45 : decode cX5_guard 45 = .ok (.ireturn, 1) := by decide +kernel
set_option maxRecDepth 20000 in
theorem ggX5_trust_X5_isEditor : GoodIn wsX5_trust wsX5_isEditor := goodIn_r _ [5] (by decide +kernel) (by decide +kernel)
set_option maxRecDepth 20000 in
theorem gX5_trust_X5_isEditor : GoodIn wsX5_trust (va_wsS RX5 75 yX5_isEditor wsX5_isEditor) := goodIn_app (goodIn_of _ (by decide +kernel)) ggX5_trust_X5_isEditor
set_option maxRecDepth 20000 in
theorem ggX5_trust_X5_asks : GoodIn wsX5_trust wsX5_asks := goodIn_r _ [9, 10, 11, 12, 13, 14, 15, 16, 17, 18, 19, 20, 21, 22, 23, 24, 25, 26, 27, 28, 29, 30] (by decide +kernel) (by decide +kernel)
set_option maxRecDepth 20000 in
theorem gX5_trust_X5_asks : GoodIn wsX5_trust (wsV RX5 83 RX5 yX5_asks wsX5_asks) := goodIn_app (goodIn_of _ (by decide +kernel)) ggX5_trust_X5_asks
theorem dX5_trust_0 : decode cX5_trust 0 = .ok (.aload_n 0, 1) := by decide +kernel
theorem dX5_trust_1 : decode cX5_trust 1 = .ok (.iload_n 1, 1) := by decide +kernel
theorem dX5_trust_2 : decode cX5_trust 2 = .ok (.invokestatic 75, 3) := by decide +kernel
theorem dX5_trust_5 : decode cX5_trust 5 = .ok (.invokevirtual 83, 3) := by decide +kernel
theorem dX5_trust_8 : decode cX5_trust 8 = .ok (.ifCond .eq 12, 3) := by decide +kernel
theorem dX5_trust_11 : decode cX5_trust 11 = .ok (.aload_n 0, 1) := by decide +kernel
theorem dX5_trust_12 : decode cX5_trust 12 = .ok (.getfield 7, 3) := by decide +kernel
theorem dX5_trust_15 : decode cX5_trust 15 = .ok (.iload_n 1, 1) := by decide +kernel
theorem dX5_trust_16 : decode cX5_trust 16 = .ok (.iaload, 1) := by decide +kernel
theorem dX5_trust_17 : decode cX5_trust 17 = .ok (.goto 4, 3) := by decide +kernel
theorem dX5_trust_20 : decode cX5_trust 20 = .ok (.iconst 0, 1) := by decide +kernel
theorem dX5_trust_21 : decode cX5_trust 21 = .ok (.ireturn, 1) := by decide +kernel
theorem dX5_ways_0 : decode cX5_ways 0 = .ok (.aload_n 0, 1) := by decide +kernel
theorem dX5_ways_1 : decode cX5_ways 1 = .ok (.iconst 0, 1) := by decide +kernel
theorem dX5_ways_2 : decode cX5_ways 2 = .ok (.putfield 61, 3) := by decide +kernel
theorem dX5_ways_5 : decode cX5_ways 5 = .ok (.aload_n 0, 1) := by decide +kernel
theorem dX5_ways_6 : decode cX5_ways 6 = .ok (.getfield 69, 3) := by decide +kernel
theorem dX5_ways_9 : decode cX5_ways 9 = .ok (.ireturn, 1) := by decide +kernel
set_option maxRecDepth 20000 in
theorem ggX5_versions_X5_isWay : GoodIn wsX5_versions wsX5_isWay := goodIn_r _ [6, 7, 13, 14, 15, 16, 17, 18, 19, 20, 21, 22, 23, 24, 25, 26, 27, 28, 29, 30, 31, 32] (by decide +kernel) (by decide +kernel)
set_option maxRecDepth 20000 in
theorem gX5_versions_X5_isWay : GoodIn wsX5_versions (wsV RX5 95 RX5 yX5_isWay wsX5_isWay) := goodIn_app (goodIn_of _ (by decide +kernel)) ggX5_versions_X5_isWay
set_option maxRecDepth 20000 in
theorem ggX5_versions_X5_asks : GoodIn wsX5_versions wsX5_asks := goodIn_r _ [11, 12, 13, 14, 15, 16, 17, 18, 19, 20, 21, 22, 23, 24, 25, 26, 27, 28, 29, 30, 31, 32] (by decide +kernel) (by decide +kernel)
set_option maxRecDepth 20000 in
theorem gX5_versions_X5_asks : GoodIn wsX5_versions (wsV RX5 83 RX5 yX5_asks wsX5_asks) := goodIn_app (goodIn_of _ (by decide +kernel)) ggX5_versions_X5_asks
theorem dX5_versions_0 : decode cX5_versions 0 = .ok (.aload_n 0, 1) := by decide +kernel
theorem dX5_versions_1 : decode cX5_versions 1 = .ok (.aload_n 0, 1) := by decide +kernel
theorem dX5_versions_2 : decode cX5_versions 2 = .ok (.iload_n 1, 1) := by decide +kernel
theorem dX5_versions_3 : decode cX5_versions 3 = .ok (.invokevirtual 95, 3) := by decide +kernel
theorem dX5_versions_6 : decode cX5_versions 6 = .ok (.invokevirtual 83, 3) := by decide +kernel
theorem dX5_versions_9 : decode cX5_versions 9 = .ok (.ifCond .eq 12, 3) := by decide +kernel
theorem dX5_versions_12 : decode cX5_versions 12 = .ok (.aload_n 0, 1) := by decide +kernel
theorem dX5_versions_13 : decode cX5_versions 13 = .ok (.getfield 28, 3) := by decide +kernel
theorem dX5_versions_16 : decode cX5_versions 16 = .ok (.iload_n 1, 1) := by decide +kernel
theorem dX5_versions_17 : decode cX5_versions 17 = .ok (.iaload, 1) := by decide +kernel
theorem dX5_versions_18 : decode cX5_versions 18 = .ok (.goto 4, 3) := by decide +kernel
theorem dX5_versions_21 : decode cX5_versions 21 = .ok (.iconst 0, 1) := by decide +kernel
theorem dX5_versions_22 : decode cX5_versions 22 = .ok (.ireturn, 1) := by decide +kernel
set_option maxRecDepth 20000 in
theorem ggX5_placeOf_X5_isWay : GoodIn wsX5_placeOf wsX5_isWay := goodIn_r _ [8, 9, 15, 16, 17, 18, 19, 20, 21, 22, 23, 24, 25, 26, 27, 28, 29, 30, 31, 32, 33, 34] (by decide +kernel) (by decide +kernel)
set_option maxRecDepth 20000 in
theorem gX5_placeOf_X5_isWay : GoodIn wsX5_placeOf (wsV RX5 95 RX5 yX5_isWay wsX5_isWay) := goodIn_app (goodIn_of _ (by decide +kernel)) ggX5_placeOf_X5_isWay
set_option maxRecDepth 20000 in
theorem ggX5_placeOf_X5_asks : GoodIn wsX5_placeOf wsX5_asks := goodIn_r _ [13, 14, 15, 16, 17, 18, 19, 20, 21, 22, 23, 24, 25, 26, 27, 28, 29, 30, 31, 32, 33, 34] (by decide +kernel) (by decide +kernel)
set_option maxRecDepth 20000 in
theorem gX5_placeOf_X5_asks : GoodIn wsX5_placeOf (wsV RX5 83 RX5 yX5_asks wsX5_asks) := goodIn_app (goodIn_of _ (by decide +kernel)) ggX5_placeOf_X5_asks
theorem dX5_placeOf_0 : decode cX5_placeOf 0 = .ok (.aload_n 0, 1) := by decide +kernel
theorem dX5_placeOf_1 : decode cX5_placeOf 1 = .ok (.aload_n 0, 1) := by decide +kernel
theorem dX5_placeOf_2 : decode cX5_placeOf 2 = .ok (.iload_n 1, 1) := by decide +kernel
theorem dX5_placeOf_3 : decode cX5_placeOf 3 = .ok (.invokevirtual 95, 3) := by decide +kernel
theorem dX5_placeOf_6 : decode cX5_placeOf 6 = .ok (.ifCond .eq 21, 3) := by decide +kernel
theorem dX5_placeOf_9 : decode cX5_placeOf 9 = .ok (.iload_n 2, 1) := by decide +kernel
theorem dX5_placeOf_10 : decode cX5_placeOf 10 = .ok (.ifCond .lt 17, 3) := by decide +kernel
theorem dX5_placeOf_13 : decode cX5_placeOf 13 = .ok (.iload_n 2, 1) := by decide +kernel
theorem dX5_placeOf_14 : decode cX5_placeOf 14 = .ok (.aload_n 0, 1) := by decide +kernel
theorem dX5_placeOf_15 : decode cX5_placeOf 15 = .ok (.getfield 28, 3) := by decide +kernel
theorem dX5_placeOf_18 : decode cX5_placeOf 18 = .ok (.iload_n 1, 1) := by decide +kernel
theorem dX5_placeOf_19 : decode cX5_placeOf 19 = .ok (.iaload, 1) := by decide +kernel
theorem dX5_placeOf_20 : decode cX5_placeOf 20 = .ok (.if_icmp .ge 7, 3) := by decide +kernel
theorem dX5_placeOf_23 : decode cX5_placeOf 23 = .ok (.iconst 1, 1) := by decide +kernel
theorem dX5_placeOf_24 : decode cX5_placeOf 24 = .ok (.goto 4, 3) := by decide +kernel
theorem dX5_placeOf_27 : decode cX5_placeOf 27 = .ok (.iconst 0, 1) := by decide +kernel
theorem dX5_placeOf_28 : decode cX5_placeOf 28 = .ok (.invokevirtual 83, 3) := by decide +kernel
theorem dX5_placeOf_31 : decode cX5_placeOf 31 = .ok (.ifCond .ne 5, 3) := by decide +kernel
theorem dX5_placeOf_34 : decode cX5_placeOf 34 = .ok (.iconst (-1), 1) := by decide +kernel
theorem dX5_placeOf_35 : decode cX5_placeOf 35 = .ok (.ireturn, 1) := by decide +kernel
theorem dX5_placeOf_36 : decode cX5_placeOf 36 = .ok (.aload_n 0, 1) := by decide +kernel
theorem dX5_placeOf_37 : decode cX5_placeOf 37 = .ok (.getfield 31, 3) := by decide +kernel
theorem dX5_placeOf_40 : decode cX5_placeOf 40 = .ok (.iload_n 1, 1) := by decide +kernel
theorem dX5_placeOf_41 : decode cX5_placeOf 41 = .ok (.iaload, 1) := by decide +kernel
theorem dX5_placeOf_42 : decode cX5_placeOf 42 = .ok (.istore_n 3, 1) := by decide +kernel
theorem dX5_placeOf_43 : decode cX5_placeOf 43 = .ok (.aload_n 0, 1) := by decide +kernel
theorem dX5_placeOf_44 : decode cX5_placeOf 44 = .ok (.getfield 28, 3) := by decide +kernel
theorem dX5_placeOf_47 : decode cX5_placeOf 47 = .ok (.iload_n 1, 1) := by decide +kernel
theorem dX5_placeOf_48 : decode cX5_placeOf 48 = .ok (.iaload, 1) := by decide +kernel
theorem dX5_placeOf_49 : decode cX5_placeOf 49 = .ok (.iconst 1, 1) := by decide +kernel
theorem dX5_placeOf_50 : decode cX5_placeOf 50 = .ok (.isub, 1) := by decide +kernel
theorem dX5_placeOf_51 : decode cX5_placeOf 51 = .ok (.istore 4, 2) := by decide +kernel
theorem dX5_placeOf_53 : decode cX5_placeOf 53 = .ok (.iload 4, 2) := by decide +kernel
theorem dX5_placeOf_55 : decode cX5_placeOf 55 = .ok (.iload_n 2, 1) := by decide +kernel
theorem dX5_placeOf_56 : decode cX5_placeOf 56 = .ok (.if_icmp .le 16, 3) := by decide +kernel
theorem dX5_placeOf_59 : decode cX5_placeOf 59 = .ok (.aload_n 0, 1) := by decide +kernel
theorem dX5_placeOf_60 : decode cX5_placeOf 60 = .ok (.getfield 40, 3) := by decide +kernel
theorem dX5_placeOf_63 : decode cX5_placeOf 63 = .ok (.iload_n 3, 1) := by decide +kernel
theorem dX5_placeOf_64 : decode cX5_placeOf 64 = .ok (.iaload, 1) := by decide +kernel
theorem dX5_placeOf_65 : decode cX5_placeOf 65 = .ok (.istore_n 3, 1) := by decide +kernel
theorem dX5_placeOf_66 : decode cX5_placeOf 66 = .ok (.iinc 4 (-1), 3) := by decide +kernel
theorem dX5_placeOf_69 : decode cX5_placeOf 69 = .ok (.goto (-16), 3) := by decide +kernel
theorem dX5_placeOf_72 : decode cX5_placeOf 72 = .ok (.iload_n 3, 1) := by decide +kernel
theorem dX5_placeOf_73 : decode cX5_placeOf 73 = .ok (.ireturn, 1) := by decide +kernel
set_option maxRecDepth 20000 in
theorem ggX5_version_X5_placeOf : GoodIn wsX5_version wsX5_placeOf := goodIn_r _ [6, 7, 8, 9, 10, 11, 12, 5, 13, 14, 15, 16, 17, 18, 19, 20, 21, 22, 23, 24, 25, 26, 27, 28, 29, 30, 31, 32, 33, 34, 35, 36, 37, 38, 39] (by decide +kernel) (by decide +kernel)
set_option maxRecDepth 20000 in
theorem gX5_version_X5_placeOf : GoodIn wsX5_version (wsV RX5 108 RX5 yX5_placeOf wsX5_placeOf) := goodIn_app (goodIn_of _ (by decide +kernel)) ggX5_version_X5_placeOf
theorem dX5_version_0 : decode cX5_version 0 = .ok (.aload_n 0, 1) := by decide +kernel
theorem dX5_version_1 : decode cX5_version 1 = .ok (.iload_n 1, 1) := by decide +kernel
theorem dX5_version_2 : decode cX5_version 2 = .ok (.iload_n 2, 1) := by decide +kernel
theorem dX5_version_3 : decode cX5_version 3 = .ok (.invokevirtual 108, 3) := by decide +kernel
theorem dX5_version_6 : decode cX5_version 6 = .ok (.istore_n 3, 1) := by decide +kernel
theorem dX5_version_7 : decode cX5_version 7 = .ok (.iload_n 3, 1) := by decide +kernel
theorem dX5_version_8 : decode cX5_version 8 = .ok (.iconst (-1), 1) := by decide +kernel
theorem dX5_version_9 : decode cX5_version 9 = .ok (.if_icmp .ne 7, 3) := by decide +kernel
theorem dX5_version_12 : decode cX5_version 12 = .ok (.iconst 0, 1) := by decide +kernel
theorem dX5_version_13 : decode cX5_version 13 = .ok (.goto 13, 3) := by decide +kernel
theorem dX5_version_16 : decode cX5_version 16 = .ok (.aload_n 0, 1) := by decide +kernel
theorem dX5_version_17 : decode cX5_version 17 = .ok (.getfield 37, 3) := by decide +kernel
theorem dX5_version_20 : decode cX5_version 20 = .ok (.iload_n 3, 1) := by decide +kernel
theorem dX5_version_21 : decode cX5_version 21 = .ok (.iaload, 1) := by decide +kernel
theorem dX5_version_22 : decode cX5_version 22 = .ok (.sipush 1000, 3) := by decide +kernel
theorem dX5_version_25 : decode cX5_version 25 = .ok (.irem, 1) := by decide +kernel
theorem dX5_version_26 : decode cX5_version 26 = .ok (.ireturn, 1) := by decide +kernel
set_option maxRecDepth 20000 in
theorem ggX5_stampOf_X5_placeOf : GoodIn wsX5_stampOf wsX5_placeOf := goodIn_r _ [5, 6, 7, 8, 9, 10, 11, 4, 12, 13, 14, 15, 16, 17, 18, 19, 20, 21, 22, 23, 24, 25, 26, 27, 28, 29, 30, 31, 32, 33, 34, 35, 36, 37, 38] (by decide +kernel) (by decide +kernel)
set_option maxRecDepth 20000 in
theorem gX5_stampOf_X5_placeOf : GoodIn wsX5_stampOf (wsV RX5 108 RX5 yX5_placeOf wsX5_placeOf) := goodIn_app (goodIn_of _ (by decide +kernel)) ggX5_stampOf_X5_placeOf
theorem dX5_stampOf_0 : decode cX5_stampOf 0 = .ok (.aload_n 0, 1) := by decide +kernel
theorem dX5_stampOf_1 : decode cX5_stampOf 1 = .ok (.iload_n 1, 1) := by decide +kernel
theorem dX5_stampOf_2 : decode cX5_stampOf 2 = .ok (.iload_n 2, 1) := by decide +kernel
theorem dX5_stampOf_3 : decode cX5_stampOf 3 = .ok (.invokevirtual 108, 3) := by decide +kernel
theorem dX5_stampOf_6 : decode cX5_stampOf 6 = .ok (.istore_n 3, 1) := by decide +kernel
theorem dX5_stampOf_7 : decode cX5_stampOf 7 = .ok (.iload_n 3, 1) := by decide +kernel
theorem dX5_stampOf_8 : decode cX5_stampOf 8 = .ok (.iconst (-1), 1) := by decide +kernel
theorem dX5_stampOf_9 : decode cX5_stampOf 9 = .ok (.if_icmp .ne 7, 3) := by decide +kernel
theorem dX5_stampOf_12 : decode cX5_stampOf 12 = .ok (.iconst 0, 1) := by decide +kernel
theorem dX5_stampOf_13 : decode cX5_stampOf 13 = .ok (.goto 6, 3) := by decide +kernel
theorem dX5_stampOf_16 : decode cX5_stampOf 16 = .ok (.iload_n 3, 1) := by decide +kernel
theorem dX5_stampOf_17 : decode cX5_stampOf 17 = .ok (.iconst 1, 1) := by decide +kernel
theorem dX5_stampOf_18 : decode cX5_stampOf 18 = .ok (.iadd, 1) := by decide +kernel
theorem dX5_stampOf_19 : decode cX5_stampOf 19 = .ok (.ireturn, 1) := by decide +kernel
set_option maxRecDepth 20000 in
theorem ggX5_waiting_X5_isWay : GoodIn wsX5_waiting wsX5_isWay := goodIn_r _ [6, 7, 13, 14, 15, 16, 17, 18, 19, 20, 21, 22, 23, 24, 25, 26, 27, 28, 29, 30, 31, 32] (by decide +kernel) (by decide +kernel)
set_option maxRecDepth 20000 in
theorem gX5_waiting_X5_isWay : GoodIn wsX5_waiting (wsV RX5 95 RX5 yX5_isWay wsX5_isWay) := goodIn_app (goodIn_of _ (by decide +kernel)) ggX5_waiting_X5_isWay
set_option maxRecDepth 20000 in
theorem ggX5_waiting_X5_asks : GoodIn wsX5_waiting wsX5_asks := goodIn_r _ [11, 12, 13, 14, 15, 16, 17, 18, 19, 20, 21, 22, 23, 24, 25, 26, 27, 28, 29, 30, 31, 32] (by decide +kernel) (by decide +kernel)
set_option maxRecDepth 20000 in
theorem gX5_waiting_X5_asks : GoodIn wsX5_waiting (wsV RX5 83 RX5 yX5_asks wsX5_asks) := goodIn_app (goodIn_of _ (by decide +kernel)) ggX5_waiting_X5_asks
theorem dX5_waiting_0 : decode cX5_waiting 0 = .ok (.aload_n 0, 1) := by decide +kernel
theorem dX5_waiting_1 : decode cX5_waiting 1 = .ok (.aload_n 0, 1) := by decide +kernel
theorem dX5_waiting_2 : decode cX5_waiting 2 = .ok (.iload_n 1, 1) := by decide +kernel
theorem dX5_waiting_3 : decode cX5_waiting 3 = .ok (.invokevirtual 95, 3) := by decide +kernel
theorem dX5_waiting_6 : decode cX5_waiting 6 = .ok (.invokevirtual 83, 3) := by decide +kernel
theorem dX5_waiting_9 : decode cX5_waiting 9 = .ok (.ifCond .eq 12, 3) := by decide +kernel
theorem dX5_waiting_12 : decode cX5_waiting 12 = .ok (.aload_n 0, 1) := by decide +kernel
theorem dX5_waiting_13 : decode cX5_waiting 13 = .ok (.getfield 34, 3) := by decide +kernel
theorem dX5_waiting_16 : decode cX5_waiting 16 = .ok (.iload_n 1, 1) := by decide +kernel
theorem dX5_waiting_17 : decode cX5_waiting 17 = .ok (.iaload, 1) := by decide +kernel
theorem dX5_waiting_18 : decode cX5_waiting 18 = .ok (.goto 4, 3) := by decide +kernel
theorem dX5_waiting_21 : decode cX5_waiting 21 = .ok (.iconst 0, 1) := by decide +kernel
theorem dX5_waiting_22 : decode cX5_waiting 22 = .ok (.ireturn, 1) := by decide +kernel
theorem dX5_clock_0 : decode cX5_clock 0 = .ok (.aload_n 0, 1) := by decide +kernel
theorem dX5_clock_1 : decode cX5_clock 1 = .ok (.iconst 0, 1) := by decide +kernel
theorem dX5_clock_2 : decode cX5_clock 2 = .ok (.putfield 61, 3) := by decide +kernel
theorem dX5_clock_5 : decode cX5_clock 5 = .ok (.aload_n 0, 1) := by decide +kernel
theorem dX5_clock_6 : decode cX5_clock 6 = .ok (.getfield 72, 3) := by decide +kernel
theorem dX5_clock_9 : decode cX5_clock 9 = .ok (.ireturn, 1) := by decide +kernel
set_option maxRecDepth 20000 in
theorem ggX5_tileAt_X5_in : GoodIn wsX5_tileAt wsX5_in := goodIn_r _ [4] (by decide +kernel) (by decide +kernel)
set_option maxRecDepth 20000 in
theorem gX5_tileAt_X5_in : GoodIn wsX5_tileAt (va_wsS RX5 65 yX5_in wsX5_in) := goodIn_app (goodIn_of _ (by decide +kernel)) ggX5_tileAt_X5_in
set_option maxRecDepth 20000 in
theorem ggX5_tileAt_X5_asks : GoodIn wsX5_tileAt wsX5_asks := goodIn_r _ [8, 9, 10, 11, 12, 13, 14, 15, 16, 17, 18, 19, 20, 21, 22, 23, 24, 25, 26, 27, 28, 29] (by decide +kernel) (by decide +kernel)
set_option maxRecDepth 20000 in
theorem gX5_tileAt_X5_asks : GoodIn wsX5_tileAt (wsV RX5 83 RX5 yX5_asks wsX5_asks) := goodIn_app (goodIn_of _ (by decide +kernel)) ggX5_tileAt_X5_asks
theorem dX5_tileAt_0 : decode cX5_tileAt 0 = .ok (.iload_n 1, 1) := by decide +kernel
theorem dX5_tileAt_1 : decode cX5_tileAt 1 = .ok (.ifCond .lt 12, 3) := by decide +kernel
theorem dX5_tileAt_4 : decode cX5_tileAt 4 = .ok (.iload_n 1, 1) := by decide +kernel
theorem dX5_tileAt_5 : decode cX5_tileAt 5 = .ok (.iconst 5, 1) := by decide +kernel
theorem dX5_tileAt_6 : decode cX5_tileAt 6 = .ok (.if_icmp .ge 7, 3) := by decide +kernel
theorem dX5_tileAt_9 : decode cX5_tileAt 9 = .ok (.iconst 1, 1) := by decide +kernel
theorem dX5_tileAt_10 : decode cX5_tileAt 10 = .ok (.goto 4, 3) := by decide +kernel
theorem dX5_tileAt_13 : decode cX5_tileAt 13 = .ok (.iconst 0, 1) := by decide +kernel
theorem dX5_tileAt_14 : decode cX5_tileAt 14 = .ok (.istore 4, 2) := by decide +kernel
theorem dX5_tileAt_16 : decode cX5_tileAt 16 = .ok (.iload 4, 2) := by decide +kernel
theorem dX5_tileAt_18 : decode cX5_tileAt 18 = .ok (.ifCond .eq 9, 3) := by decide +kernel
theorem dX5_tileAt_21 : decode cX5_tileAt 21 = .ok (.iconst 1, 1) := by decide +kernel
theorem dX5_tileAt_22 : decode cX5_tileAt 22 = .ok (.iload_n 1, 1) := by decide +kernel
theorem dX5_tileAt_23 : decode cX5_tileAt 23 = .ok (.ishl, 1) := by decide +kernel
theorem dX5_tileAt_24 : decode cX5_tileAt 24 = .ok (.goto 4, 3) := by decide +kernel
theorem dX5_tileAt_27 : decode cX5_tileAt 27 = .ok (.iconst 0, 1) := by decide +kernel
theorem dX5_tileAt_28 : decode cX5_tileAt 28 = .ok (.istore 5, 2) := by decide +kernel
theorem dX5_tileAt_30 : decode cX5_tileAt 30 = .ok (.aload_n 0, 1) := by decide +kernel
theorem dX5_tileAt_31 : decode cX5_tileAt 31 = .ok (.iload 4, 2) := by decide +kernel
theorem dX5_tileAt_33 : decode cX5_tileAt 33 = .ok (.ifCond .eq 31, 3) := by decide +kernel
theorem dX5_tileAt_36 : decode cX5_tileAt 36 = .ok (.iload_n 2, 1) := by decide +kernel
theorem dX5_tileAt_37 : decode cX5_tileAt 37 = .ok (.iconst 0, 1) := by decide +kernel
theorem dX5_tileAt_38 : decode cX5_tileAt 38 = .ok (.iload 5, 2) := by decide +kernel
theorem dX5_tileAt_40 : decode cX5_tileAt 40 = .ok (.iconst 1, 1) := by decide +kernel
theorem dX5_tileAt_41 : decode cX5_tileAt 41 = .ok (.isub, 1) := by decide +kernel
theorem dX5_tileAt_42 : decode cX5_tileAt 42 = .ok (.invokestatic 65, 3) := by decide +kernel
theorem dX5_tileAt_45 : decode cX5_tileAt 45 = .ok (.ifCond .eq 19, 3) := by decide +kernel
theorem dX5_tileAt_48 : decode cX5_tileAt 48 = .ok (.iload_n 3, 1) := by decide +kernel
theorem dX5_tileAt_49 : decode cX5_tileAt 49 = .ok (.iconst 0, 1) := by decide +kernel
theorem dX5_tileAt_50 : decode cX5_tileAt 50 = .ok (.iload 5, 2) := by decide +kernel
theorem dX5_tileAt_52 : decode cX5_tileAt 52 = .ok (.iconst 1, 1) := by decide +kernel
theorem dX5_tileAt_53 : decode cX5_tileAt 53 = .ok (.isub, 1) := by decide +kernel
theorem dX5_tileAt_54 : decode cX5_tileAt 54 = .ok (.invokestatic 65, 3) := by decide +kernel
theorem dX5_tileAt_57 : decode cX5_tileAt 57 = .ok (.ifCond .eq 7, 3) := by decide +kernel
theorem dX5_tileAt_60 : decode cX5_tileAt 60 = .ok (.iconst 1, 1) := by decide +kernel
theorem dX5_tileAt_61 : decode cX5_tileAt 61 = .ok (.goto 4, 3) := by decide +kernel
theorem dX5_tileAt_64 : decode cX5_tileAt 64 = .ok (.iconst 0, 1) := by decide +kernel
theorem dX5_tileAt_65 : decode cX5_tileAt 65 = .ok (.invokevirtual 83, 3) := by decide +kernel
theorem dX5_tileAt_68 : decode cX5_tileAt 68 = .ok (.ifCond .ne 5, 3) := by decide +kernel
theorem dX5_tileAt_71 : decode cX5_tileAt 71 = .ok (.iconst (-1), 1) := by decide +kernel
theorem dX5_tileAt_72 : decode cX5_tileAt 72 = .ok (.ireturn, 1) := by decide +kernel
theorem dX5_tileAt_73 : decode cX5_tileAt 73 = .ok (.iload 5, 2) := by decide +kernel
theorem dX5_tileAt_75 : decode cX5_tileAt 75 = .ok (.iload 5, 2) := by decide +kernel
theorem dX5_tileAt_77 : decode cX5_tileAt 77 = .ok (.imul, 1) := by decide +kernel
theorem dX5_tileAt_78 : decode cX5_tileAt 78 = .ok (.iconst 1, 1) := by decide +kernel
theorem dX5_tileAt_79 : decode cX5_tileAt 79 = .ok (.isub, 1) := by decide +kernel
theorem dX5_tileAt_80 : decode cX5_tileAt 80 = .ok (.iconst 3, 1) := by decide +kernel
theorem dX5_tileAt_81 : decode cX5_tileAt 81 = .ok (.idiv, 1) := by decide +kernel
theorem dX5_tileAt_82 : decode cX5_tileAt 82 = .ok (.iload 5, 2) := by decide +kernel
theorem dX5_tileAt_84 : decode cX5_tileAt 84 = .ok (.iload_n 3, 1) := by decide +kernel
theorem dX5_tileAt_85 : decode cX5_tileAt 85 = .ok (.imul, 1) := by decide +kernel
theorem dX5_tileAt_86 : decode cX5_tileAt 86 = .ok (.iadd, 1) := by decide +kernel
theorem dX5_tileAt_87 : decode cX5_tileAt 87 = .ok (.iload_n 2, 1) := by decide +kernel
theorem dX5_tileAt_88 : decode cX5_tileAt 88 = .ok (.iadd, 1) := by decide +kernel
theorem dX5_tileAt_89 : decode cX5_tileAt 89 = .ok (.ireturn, 1) := by decide +kernel
theorem dX5_isIn_0 : decode cX5_isIn 0 = .ok (.bipush 16, 2) := by decide +kernel
theorem dX5_isIn_2 : decode cX5_isIn 2 = .ok (.iload_n 2, 1) := by decide +kernel
theorem dX5_isIn_3 : decode cX5_isIn 3 = .ok (.ishr, 1) := by decide +kernel
theorem dX5_isIn_4 : decode cX5_isIn 4 = .ok (.istore 5, 2) := by decide +kernel
theorem dX5_isIn_6 : decode cX5_isIn 6 = .ok (.aload_n 0, 1) := by decide +kernel
theorem dX5_isIn_7 : decode cX5_isIn 7 = .ok (.getfield 13, 3) := by decide +kernel
theorem dX5_isIn_10 : decode cX5_isIn 10 = .ok (.iload_n 1, 1) := by decide +kernel
theorem dX5_isIn_11 : decode cX5_isIn 11 = .ok (.iaload, 1) := by decide +kernel
theorem dX5_isIn_12 : decode cX5_isIn 12 = .ok (.iload 5, 2) := by decide +kernel
theorem dX5_isIn_14 : decode cX5_isIn 14 = .ok (.iload_n 3, 1) := by decide +kernel
theorem dX5_isIn_15 : decode cX5_isIn 15 = .ok (.iconst 1, 1) := by decide +kernel
theorem dX5_isIn_16 : decode cX5_isIn 16 = .ok (.iadd, 1) := by decide +kernel
theorem dX5_isIn_17 : decode cX5_isIn 17 = .ok (.imul, 1) := by decide +kernel
theorem dX5_isIn_18 : decode cX5_isIn 18 = .ok (.if_icmp .gt 50, 3) := by decide +kernel
theorem dX5_isIn_21 : decode cX5_isIn 21 = .ok (.aload_n 0, 1) := by decide +kernel
theorem dX5_isIn_22 : decode cX5_isIn 22 = .ok (.getfield 19, 3) := by decide +kernel
theorem dX5_isIn_25 : decode cX5_isIn 25 = .ok (.iload_n 1, 1) := by decide +kernel
theorem dX5_isIn_26 : decode cX5_isIn 26 = .ok (.iaload, 1) := by decide +kernel
theorem dX5_isIn_27 : decode cX5_isIn 27 = .ok (.iload 5, 2) := by decide +kernel
theorem dX5_isIn_29 : decode cX5_isIn 29 = .ok (.iload_n 3, 1) := by decide +kernel
theorem dX5_isIn_30 : decode cX5_isIn 30 = .ok (.imul, 1) := by decide +kernel
theorem dX5_isIn_31 : decode cX5_isIn 31 = .ok (.if_icmp .lt 37, 3) := by decide +kernel
theorem dX5_isIn_34 : decode cX5_isIn 34 = .ok (.aload_n 0, 1) := by decide +kernel
theorem dX5_isIn_35 : decode cX5_isIn 35 = .ok (.getfield 16, 3) := by decide +kernel
theorem dX5_isIn_38 : decode cX5_isIn 38 = .ok (.iload_n 1, 1) := by decide +kernel
theorem dX5_isIn_39 : decode cX5_isIn 39 = .ok (.iaload, 1) := by decide +kernel
theorem dX5_isIn_40 : decode cX5_isIn 40 = .ok (.iload 5, 2) := by decide +kernel
theorem dX5_isIn_42 : decode cX5_isIn 42 = .ok (.iload 4, 2) := by decide +kernel
theorem dX5_isIn_44 : decode cX5_isIn 44 = .ok (.iconst 1, 1) := by decide +kernel
theorem dX5_isIn_45 : decode cX5_isIn 45 = .ok (.iadd, 1) := by decide +kernel
theorem dX5_isIn_46 : decode cX5_isIn 46 = .ok (.imul, 1) := by decide +kernel
theorem dX5_isIn_47 : decode cX5_isIn 47 = .ok (.if_icmp .gt 21, 3) := by decide +kernel
theorem dX5_isIn_50 : decode cX5_isIn 50 = .ok (.aload_n 0, 1) := by decide +kernel
theorem dX5_isIn_51 : decode cX5_isIn 51 = .ok (.getfield 22, 3) := by decide +kernel
theorem dX5_isIn_54 : decode cX5_isIn 54 = .ok (.iload_n 1, 1) := by decide +kernel
theorem dX5_isIn_55 : decode cX5_isIn 55 = .ok (.iaload, 1) := by decide +kernel
theorem dX5_isIn_56 : decode cX5_isIn 56 = .ok (.iload 5, 2) := by decide +kernel
theorem dX5_isIn_58 : decode cX5_isIn 58 = .ok (.iload 4, 2) := by decide +kernel
theorem dX5_isIn_60 : decode cX5_isIn 60 = .ok (.imul, 1) := by decide +kernel
theorem dX5_isIn_61 : decode cX5_isIn 61 = .ok (.if_icmp .lt 7, 3) := by decide +kernel
theorem dX5_isIn_64 : decode cX5_isIn 64 = .ok (.iconst 1, 1) := by decide +kernel
theorem dX5_isIn_65 : decode cX5_isIn 65 = .ok (.goto 4, 3) := by decide +kernel
theorem dX5_isIn_68 : decode cX5_isIn 68 = .ok (.iconst 0, 1) := by decide +kernel
theorem dX5_isIn_69 : decode cX5_isIn 69 = .ok (.ireturn, 1) := by decide +kernel
theorem dX5_isShown_0 : decode cX5_isShown 0 = .ok (.iload_n 0, 1) := by decide +kernel
theorem dX5_isShown_1 : decode cX5_isShown 1 = .ok (.sipush 1000, 3) := by decide +kernel
theorem dX5_isShown_4 : decode cX5_isShown 4 = .ok (.irem, 1) := by decide +kernel
theorem dX5_isShown_5 : decode cX5_isShown 5 = .ok (.bipush 100, 2) := by decide +kernel
theorem dX5_isShown_7 : decode cX5_isShown 7 = .ok (.idiv, 1) := by decide +kernel
theorem dX5_isShown_8 : decode cX5_isShown 8 = .ok (.iconst 3, 1) := by decide +kernel
theorem dX5_isShown_9 : decode cX5_isShown 9 = .ok (.iload_n 1, 1) := by decide +kernel
theorem dX5_isShown_10 : decode cX5_isShown 10 = .ok (.isub, 1) := by decide +kernel
theorem dX5_isShown_11 : decode cX5_isShown 11 = .ok (.if_icmp .lt 7, 3) := by decide +kernel
theorem dX5_isShown_14 : decode cX5_isShown 14 = .ok (.iconst 1, 1) := by decide +kernel
theorem dX5_isShown_15 : decode cX5_isShown 15 = .ok (.goto 4, 3) := by decide +kernel
theorem dX5_isShown_18 : decode cX5_isShown 18 = .ok (.iconst 0, 1) := by decide +kernel
theorem dX5_isShown_19 : decode cX5_isShown 19 = .ok (.ireturn, 1) := by decide +kernel
set_option maxRecDepth 20000 in
theorem ggX5_drawn_X5_isShown : GoodIn wsX5_drawn wsX5_isShown := goodIn_r _ [8] (by decide +kernel) (by decide +kernel)
set_option maxRecDepth 20000 in
theorem gX5_drawn_X5_isShown : GoodIn wsX5_drawn (va_wsS RX5 112 yX5_isShown wsX5_isShown) := goodIn_app (goodIn_of _ (by decide +kernel)) ggX5_drawn_X5_isShown
set_option maxRecDepth 20000 in
theorem ggX5_drawn_X5_isIn : GoodIn wsX5_drawn wsX5_isIn := goodIn_r _ [12, 13, 14, 15, 16, 17, 18, 19, 20, 21, 22, 23, 24, 25, 26, 27, 28, 29, 30, 31, 32, 33, 34, 35, 36] (by decide +kernel) (by decide +kernel)
set_option maxRecDepth 20000 in
theorem gX5_drawn_X5_isIn : GoodIn wsX5_drawn (wsV RX5 115 RX5 yX5_isIn wsX5_isIn) := goodIn_app (goodIn_of _ (by decide +kernel)) ggX5_drawn_X5_isIn
theorem dX5_drawn_0 : decode cX5_drawn 0 = .ok (.bipush 17, 2) := by decide +kernel
theorem dX5_drawn_2 : decode cX5_drawn 2 = .ok (.istore 5, 2) := by decide +kernel
theorem dX5_drawn_4 : decode cX5_drawn 4 = .ok (.iconst 0, 1) := by decide +kernel
theorem dX5_drawn_5 : decode cX5_drawn 5 = .ok (.istore 6, 2) := by decide +kernel
theorem dX5_drawn_7 : decode cX5_drawn 7 = .ok (.iload 6, 2) := by decide +kernel
theorem dX5_drawn_9 : decode cX5_drawn 9 = .ok (.aload_n 0, 1) := by decide +kernel
theorem dX5_drawn_10 : decode cX5_drawn 10 = .ok (.getfield 69, 3) := by decide +kernel
theorem dX5_drawn_13 : decode cX5_drawn 13 = .ok (.if_icmp .ge 119, 3) := by decide +kernel
theorem dX5_drawn_16 : decode cX5_drawn 16 = .ok (.aload_n 0, 1) := by decide +kernel
theorem dX5_drawn_17 : decode cX5_drawn 17 = .ok (.getfield 31, 3) := by decide +kernel
theorem dX5_drawn_20 : decode cX5_drawn 20 = .ok (.iload 6, 2) := by decide +kernel
theorem dX5_drawn_22 : decode cX5_drawn 22 = .ok (.iaload, 1) := by decide +kernel
theorem dX5_drawn_23 : decode cX5_drawn 23 = .ok (.istore 7, 2) := by decide +kernel
theorem dX5_drawn_25 : decode cX5_drawn 25 = .ok (.iload 7, 2) := by decide +kernel
theorem dX5_drawn_27 : decode cX5_drawn 27 = .ok (.iconst (-1), 1) := by decide +kernel
theorem dX5_drawn_28 : decode cX5_drawn 28 = .ok (.if_icmp .eq 22, 3) := by decide +kernel
theorem dX5_drawn_31 : decode cX5_drawn 31 = .ok (.iload 7, 2) := by decide +kernel
theorem dX5_drawn_33 : decode cX5_drawn 33 = .ok (.iload 4, 2) := by decide +kernel
theorem dX5_drawn_35 : decode cX5_drawn 35 = .ok (.if_icmp .lt 15, 3) := by decide +kernel
theorem dX5_drawn_38 : decode cX5_drawn 38 = .ok (.aload_n 0, 1) := by decide +kernel
theorem dX5_drawn_39 : decode cX5_drawn 39 = .ok (.getfield 40, 3) := by decide +kernel
theorem dX5_drawn_42 : decode cX5_drawn 42 = .ok (.iload 7, 2) := by decide +kernel
theorem dX5_drawn_44 : decode cX5_drawn 44 = .ok (.iaload, 1) := by decide +kernel
theorem dX5_drawn_45 : decode cX5_drawn 45 = .ok (.istore 7, 2) := by decide +kernel
theorem dX5_drawn_47 : decode cX5_drawn 47 = .ok (.goto (-22), 3) := by decide +kernel
theorem dX5_drawn_50 : decode cX5_drawn 50 = .ok (.iload 7, 2) := by decide +kernel
theorem dX5_drawn_52 : decode cX5_drawn 52 = .ok (.iconst (-1), 1) := by decide +kernel
theorem dX5_drawn_53 : decode cX5_drawn 53 = .ok (.if_icmp .eq 73, 3) := by decide +kernel
theorem dX5_drawn_56 : decode cX5_drawn 56 = .ok (.aload_n 0, 1) := by decide +kernel
theorem dX5_drawn_57 : decode cX5_drawn 57 = .ok (.getfield 37, 3) := by decide +kernel
theorem dX5_drawn_60 : decode cX5_drawn 60 = .ok (.iload 7, 2) := by decide +kernel
theorem dX5_drawn_62 : decode cX5_drawn 62 = .ok (.iaload, 1) := by decide +kernel
theorem dX5_drawn_63 : decode cX5_drawn 63 = .ok (.iload_n 1, 1) := by decide +kernel
theorem dX5_drawn_64 : decode cX5_drawn 64 = .ok (.invokestatic 112, 3) := by decide +kernel
theorem dX5_drawn_67 : decode cX5_drawn 67 = .ok (.ifCond .eq 59, 3) := by decide +kernel
theorem dX5_drawn_70 : decode cX5_drawn 70 = .ok (.aload_n 0, 1) := by decide +kernel
theorem dX5_drawn_71 : decode cX5_drawn 71 = .ok (.iload 6, 2) := by decide +kernel
theorem dX5_drawn_73 : decode cX5_drawn 73 = .ok (.iload_n 1, 1) := by decide +kernel
theorem dX5_drawn_74 : decode cX5_drawn 74 = .ok (.iload_n 2, 1) := by decide +kernel
theorem dX5_drawn_75 : decode cX5_drawn 75 = .ok (.iload_n 3, 1) := by decide +kernel
theorem dX5_drawn_76 : decode cX5_drawn 76 = .ok (.invokevirtual 115, 3) := by decide +kernel
theorem dX5_drawn_79 : decode cX5_drawn 79 = .ok (.ifCond .eq 47, 3) := by decide +kernel
theorem dX5_drawn_82 : decode cX5_drawn 82 = .ok (.bipush 31, 2) := by decide +kernel
theorem dX5_drawn_84 : decode cX5_drawn 84 = .ok (.iload 5, 2) := by decide +kernel
theorem dX5_drawn_86 : decode cX5_drawn 86 = .ok (.imul, 1) := by decide +kernel
theorem dX5_drawn_87 : decode cX5_drawn 87 = .ok (.bipush 16, 2) := by decide +kernel
theorem dX5_drawn_89 : decode cX5_drawn 89 = .ok (.iload 6, 2) := by decide +kernel
theorem dX5_drawn_91 : decode cX5_drawn 91 = .ok (.imul, 1) := by decide +kernel
theorem dX5_drawn_92 : decode cX5_drawn 92 = .ok (.iadd, 1) := by decide +kernel
theorem dX5_drawn_93 : decode cX5_drawn 93 = .ok (.iconst 4, 1) := by decide +kernel
theorem dX5_drawn_94 : decode cX5_drawn 94 = .ok (.aload_n 0, 1) := by decide +kernel
theorem dX5_drawn_95 : decode cX5_drawn 95 = .ok (.getfield 37, 3) := by decide +kernel
theorem dX5_drawn_98 : decode cX5_drawn 98 = .ok (.iload 7, 2) := by decide +kernel
theorem dX5_drawn_100 : decode cX5_drawn 100 = .ok (.iaload, 1) := by decide +kernel
theorem dX5_drawn_101 : decode cX5_drawn 101 = .ok (.sipush 1000, 3) := by decide +kernel
theorem dX5_drawn_104 : decode cX5_drawn 104 = .ok (.irem, 1) := by decide +kernel
theorem dX5_drawn_105 : decode cX5_drawn 105 = .ok (.bipush 100, 2) := by decide +kernel
theorem dX5_drawn_107 : decode cX5_drawn 107 = .ok (.idiv, 1) := by decide +kernel
theorem dX5_drawn_108 : decode cX5_drawn 108 = .ok (.imul, 1) := by decide +kernel
theorem dX5_drawn_109 : decode cX5_drawn 109 = .ok (.iadd, 1) := by decide +kernel
theorem dX5_drawn_110 : decode cX5_drawn 110 = .ok (.aload_n 0, 1) := by decide +kernel
theorem dX5_drawn_111 : decode cX5_drawn 111 = .ok (.getfield 37, 3) := by decide +kernel
theorem dX5_drawn_114 : decode cX5_drawn 114 = .ok (.iload 7, 2) := by decide +kernel
theorem dX5_drawn_116 : decode cX5_drawn 116 = .ok (.iaload, 1) := by decide +kernel
theorem dX5_drawn_117 : decode cX5_drawn 117 = .ok (.bipush 100, 2) := by decide +kernel
theorem dX5_drawn_119 : decode cX5_drawn 119 = .ok (.irem, 1) := by decide +kernel
theorem dX5_drawn_120 : decode cX5_drawn 120 = .ok (.bipush 10, 2) := by decide +kernel
theorem dX5_drawn_122 : decode cX5_drawn 122 = .ok (.idiv, 1) := by decide +kernel
theorem dX5_drawn_123 : decode cX5_drawn 123 = .ok (.iadd, 1) := by decide +kernel
theorem dX5_drawn_124 : decode cX5_drawn 124 = .ok (.istore 5, 2) := by decide +kernel
theorem dX5_drawn_126 : decode cX5_drawn 126 = .ok (.iinc 6 1, 3) := by decide +kernel
theorem dX5_drawn_129 : decode cX5_drawn 129 = .ok (.goto (-122), 3) := by decide +kernel
theorem dX5_drawn_132 : decode cX5_drawn 132 = .ok (.iload 5, 2) := by decide +kernel
theorem dX5_drawn_134 : decode cX5_drawn 134 = .ok (.ireturn, 1) := by decide +kernel
set_option maxRecDepth 20000 in
theorem ggX5_draws_X5_drawn : GoodIn wsX5_draws wsX5_drawn := goodIn_r _ [8, 9, 10, 11, 12, 13, 14, 7, 15, 16, 17, 18, 19, 20, 21, 22, 23, 24, 25, 26, 27, 28, 29, 30, 31, 32, 33, 34, 35, 36, 37, 38, 39, 40, 41, 42, 43] (by decide +kernel) (by decide +kernel)
set_option maxRecDepth 20000 in
theorem gX5_draws_X5_drawn : GoodIn wsX5_draws (wsV RX5 119 RX5 yX5_drawn wsX5_drawn) := goodIn_app (goodIn_of _ (by decide +kernel)) ggX5_draws_X5_drawn
theorem dX5_draws_0 : decode cX5_draws 0 = .ok (.aload_n 0, 1) := by decide +kernel
theorem dX5_draws_1 : decode cX5_draws 1 = .ok (.getfield 46, 3) := by decide +kernel
theorem dX5_draws_4 : decode cX5_draws 4 = .ok (.iload_n 1, 1) := by decide +kernel
theorem dX5_draws_5 : decode cX5_draws 5 = .ok (.aload_n 0, 1) := by decide +kernel
theorem dX5_draws_6 : decode cX5_draws 6 = .ok (.iload_n 2, 1) := by decide +kernel
theorem dX5_draws_7 : decode cX5_draws 7 = .ok (.iload_n 3, 1) := by decide +kernel
theorem dX5_draws_8 : decode cX5_draws 8 = .ok (.iload 4, 2) := by decide +kernel
theorem dX5_draws_10 : decode cX5_draws 10 = .ok (.aload_n 0, 1) := by decide +kernel
theorem dX5_draws_11 : decode cX5_draws 11 = .ok (.getfield 72, 3) := by decide +kernel
theorem dX5_draws_14 : decode cX5_draws 14 = .ok (.invokevirtual 119, 3) := by decide +kernel
theorem dX5_draws_17 : decode cX5_draws 17 = .ok (.iastore, 1) := by decide +kernel
theorem dX5_draws_18 : decode cX5_draws 18 = .ok (.aload_n 0, 1) := by decide +kernel
theorem dX5_draws_19 : decode cX5_draws 19 = .ok (.getfield 43, 3) := by decide +kernel
theorem dX5_draws_22 : decode cX5_draws 22 = .ok (.iload_n 1, 1) := by decide +kernel
theorem dX5_draws_23 : decode cX5_draws 23 = .ok (.aload_n 0, 1) := by decide +kernel
theorem dX5_draws_24 : decode cX5_draws 24 = .ok (.getfield 72, 3) := by decide +kernel
theorem dX5_draws_27 : decode cX5_draws 27 = .ok (.iconst 1, 1) := by decide +kernel
theorem dX5_draws_28 : decode cX5_draws 28 = .ok (.iadd, 1) := by decide +kernel
theorem dX5_draws_29 : decode cX5_draws 29 = .ok (.iastore, 1) := by decide +kernel
theorem dX5_draws_30 : decode cX5_draws 30 = .ok (.return_, 1) := by decide +kernel
set_option maxRecDepth 20000 in
theorem ggX5_draw_X5_tileAt : GoodIn wsX5_draw wsX5_tileAt := goodIn_r _ [8, 9, 10, 7, 11, 12, 13, 14, 15, 16, 40, 41, 42, 43, 44, 45, 46, 47, 48, 49, 50, 51, 52, 53, 54, 55, 56, 57, 58, 59] (by decide +kernel) (by decide +kernel)
set_option maxRecDepth 20000 in
theorem gX5_draw_X5_tileAt : GoodIn wsX5_draw (wsV RX5 123 RX5 yX5_tileAt wsX5_tileAt) := goodIn_app (goodIn_of _ (by decide +kernel)) ggX5_draw_X5_tileAt
set_option maxRecDepth 20000 in
theorem ggX5_draw_X5_draws : GoodIn wsX5_draw wsX5_draws := goodIn_r _ [20, 21, 22, 23, 24, 25, 26, 7, 27, 1, 3, 28, 2, 29, 30, 31, 32, 33, 34, 35, 36, 37, 38, 39, 40, 41, 42, 43, 44, 45, 46, 47, 48, 49, 50, 51, 52, 53, 54, 55, 56, 57, 58, 59] (by decide +kernel) (by decide +kernel)
set_option maxRecDepth 20000 in
theorem gX5_draw_X5_draws : GoodIn wsX5_draw (wsV RX5 127 RX5 yX5_draws wsX5_draws) := goodIn_app (goodIn_of _ (by decide +kernel)) ggX5_draw_X5_draws
set_option maxRecDepth 20000 in
theorem ggX5_draw_X5_isShown : GoodIn wsX5_draw wsX5_isShown := goodIn_r _ [31] (by decide +kernel) (by decide +kernel)
set_option maxRecDepth 20000 in
theorem gX5_draw_X5_isShown : GoodIn wsX5_draw (va_wsS RX5 112 yX5_isShown wsX5_isShown) := goodIn_app (goodIn_of _ (by decide +kernel)) ggX5_draw_X5_isShown
set_option maxRecDepth 20000 in
theorem ggX5_draw_X5_isIn : GoodIn wsX5_draw wsX5_isIn := goodIn_r _ [35, 36, 37, 38, 39, 40, 41, 42, 43, 44, 45, 46, 47, 48, 49, 50, 51, 52, 53, 54, 55, 56, 57, 58, 59] (by decide +kernel) (by decide +kernel)
set_option maxRecDepth 20000 in
theorem gX5_draw_X5_isIn : GoodIn wsX5_draw (wsV RX5 115 RX5 yX5_isIn wsX5_isIn) := goodIn_app (goodIn_of _ (by decide +kernel)) ggX5_draw_X5_isIn
theorem dX5_draw_0 : decode cX5_draw 0 = .ok (.aload_n 0, 1) := by decide +kernel
theorem dX5_draw_1 : decode cX5_draw 1 = .ok (.iload_n 1, 1) := by decide +kernel
theorem dX5_draw_2 : decode cX5_draw 2 = .ok (.iload_n 2, 1) := by decide +kernel
theorem dX5_draw_3 : decode cX5_draw 3 = .ok (.iload_n 3, 1) := by decide +kernel
theorem dX5_draw_4 : decode cX5_draw 4 = .ok (.invokevirtual 123, 3) := by decide +kernel
theorem dX5_draw_7 : decode cX5_draw 7 = .ok (.istore 4, 2) := by decide +kernel
theorem dX5_draw_9 : decode cX5_draw 9 = .ok (.iload 4, 2) := by decide +kernel
theorem dX5_draw_11 : decode cX5_draw 11 = .ok (.iconst (-1), 1) := by decide +kernel
theorem dX5_draw_12 : decode cX5_draw 12 = .ok (.if_icmp .ne 5, 3) := by decide +kernel
theorem dX5_draw_15 : decode cX5_draw 15 = .ok (.iconst 0, 1) := by decide +kernel
theorem dX5_draw_16 : decode cX5_draw 16 = .ok (.ireturn, 1) := by decide +kernel
theorem dX5_draw_17 : decode cX5_draw 17 = .ok (.aload_n 0, 1) := by decide +kernel
theorem dX5_draw_18 : decode cX5_draw 18 = .ok (.iload 4, 2) := by decide +kernel
theorem dX5_draw_20 : decode cX5_draw 20 = .ok (.iload_n 1, 1) := by decide +kernel
theorem dX5_draw_21 : decode cX5_draw 21 = .ok (.iload_n 2, 1) := by decide +kernel
theorem dX5_draw_22 : decode cX5_draw 22 = .ok (.iload_n 3, 1) := by decide +kernel
theorem dX5_draw_23 : decode cX5_draw 23 = .ok (.invokevirtual 127, 3) := by decide +kernel
theorem dX5_draw_26 : decode cX5_draw 26 = .ok (.iconst 0, 1) := by decide +kernel
theorem dX5_draw_27 : decode cX5_draw 27 = .ok (.istore 5, 2) := by decide +kernel
theorem dX5_draw_29 : decode cX5_draw 29 = .ok (.iconst 0, 1) := by decide +kernel
theorem dX5_draw_30 : decode cX5_draw 30 = .ok (.istore 6, 2) := by decide +kernel
theorem dX5_draw_32 : decode cX5_draw 32 = .ok (.iload 6, 2) := by decide +kernel
theorem dX5_draw_34 : decode cX5_draw 34 = .ok (.aload_n 0, 1) := by decide +kernel
theorem dX5_draw_35 : decode cX5_draw 35 = .ok (.getfield 69, 3) := by decide +kernel
theorem dX5_draw_38 : decode cX5_draw 38 = .ok (.if_icmp .ge 50, 3) := by decide +kernel
theorem dX5_draw_41 : decode cX5_draw 41 = .ok (.iload 5, 2) := by decide +kernel
theorem dX5_draw_43 : decode cX5_draw 43 = .ok (.aload_n 0, 1) := by decide +kernel
theorem dX5_draw_44 : decode cX5_draw 44 = .ok (.getfield 37, 3) := by decide +kernel
theorem dX5_draw_47 : decode cX5_draw 47 = .ok (.aload_n 0, 1) := by decide +kernel
theorem dX5_draw_48 : decode cX5_draw 48 = .ok (.getfield 31, 3) := by decide +kernel
theorem dX5_draw_51 : decode cX5_draw 51 = .ok (.iload 6, 2) := by decide +kernel
theorem dX5_draw_53 : decode cX5_draw 53 = .ok (.iaload, 1) := by decide +kernel
theorem dX5_draw_54 : decode cX5_draw 54 = .ok (.iaload, 1) := by decide +kernel
theorem dX5_draw_55 : decode cX5_draw 55 = .ok (.iload_n 1, 1) := by decide +kernel
theorem dX5_draw_56 : decode cX5_draw 56 = .ok (.invokestatic 112, 3) := by decide +kernel
theorem dX5_draw_59 : decode cX5_draw 59 = .ok (.ifCond .eq 19, 3) := by decide +kernel
theorem dX5_draw_62 : decode cX5_draw 62 = .ok (.aload_n 0, 1) := by decide +kernel
theorem dX5_draw_63 : decode cX5_draw 63 = .ok (.iload 6, 2) := by decide +kernel
theorem dX5_draw_65 : decode cX5_draw 65 = .ok (.iload_n 1, 1) := by decide +kernel
theorem dX5_draw_66 : decode cX5_draw 66 = .ok (.iload_n 2, 1) := by decide +kernel
theorem dX5_draw_67 : decode cX5_draw 67 = .ok (.iload_n 3, 1) := by decide +kernel
theorem dX5_draw_68 : decode cX5_draw 68 = .ok (.invokevirtual 115, 3) := by decide +kernel
theorem dX5_draw_71 : decode cX5_draw 71 = .ok (.ifCond .eq 7, 3) := by decide +kernel
theorem dX5_draw_74 : decode cX5_draw 74 = .ok (.iconst 1, 1) := by decide +kernel
theorem dX5_draw_75 : decode cX5_draw 75 = .ok (.goto 4, 3) := by decide +kernel
theorem dX5_draw_78 : decode cX5_draw 78 = .ok (.iconst 0, 1) := by decide +kernel
theorem dX5_draw_79 : decode cX5_draw 79 = .ok (.iadd, 1) := by decide +kernel
theorem dX5_draw_80 : decode cX5_draw 80 = .ok (.istore 5, 2) := by decide +kernel
theorem dX5_draw_82 : decode cX5_draw 82 = .ok (.iinc 6 1, 3) := by decide +kernel
theorem dX5_draw_85 : decode cX5_draw 85 = .ok (.goto (-53), 3) := by decide +kernel
theorem dX5_draw_88 : decode cX5_draw 88 = .ok (.iload 5, 2) := by decide +kernel
theorem dX5_draw_90 : decode cX5_draw 90 = .ok (.ireturn, 1) := by decide +kernel
set_option maxRecDepth 20000 in
theorem ggX5_picture_X5_tileAt : GoodIn wsX5_picture wsX5_tileAt := goodIn_r _ [7, 8, 9, 6, 10, 11, 12, 13, 14, 15, 20, 21, 22, 23, 24, 25, 26, 27, 28, 29, 30, 31, 32, 33, 34, 35, 36, 37, 38, 39] (by decide +kernel) (by decide +kernel)
set_option maxRecDepth 20000 in
theorem gX5_picture_X5_tileAt : GoodIn wsX5_picture (wsV RX5 123 RX5 yX5_tileAt wsX5_tileAt) := goodIn_app (goodIn_of _ (by decide +kernel)) ggX5_picture_X5_tileAt
set_option maxRecDepth 20000 in
theorem ggX5_picture_X5_fails : GoodIn wsX5_picture wsX5_fails := goodIn_r _ [19, 15, 20, 21, 22, 23, 24, 25, 26, 27, 28, 29, 30, 31, 32, 33, 34, 35, 36, 37, 38, 39] (by decide +kernel) (by decide +kernel)
set_option maxRecDepth 20000 in
theorem gX5_picture_X5_fails : GoodIn wsX5_picture (wsV RX5 87 RX5 yX5_fails wsX5_fails) := goodIn_app (goodIn_of _ (by decide +kernel)) ggX5_picture_X5_fails
theorem dX5_picture_0 : decode cX5_picture 0 = .ok (.aload_n 0, 1) := by decide +kernel
theorem dX5_picture_1 : decode cX5_picture 1 = .ok (.iload_n 1, 1) := by decide +kernel
theorem dX5_picture_2 : decode cX5_picture 2 = .ok (.iload_n 2, 1) := by decide +kernel
theorem dX5_picture_3 : decode cX5_picture 3 = .ok (.iload_n 3, 1) := by decide +kernel
theorem dX5_picture_4 : decode cX5_picture 4 = .ok (.invokevirtual 123, 3) := by decide +kernel
theorem dX5_picture_7 : decode cX5_picture 7 = .ok (.istore 4, 2) := by decide +kernel
theorem dX5_picture_9 : decode cX5_picture 9 = .ok (.iload 4, 2) := by decide +kernel
theorem dX5_picture_11 : decode cX5_picture 11 = .ok (.iconst (-1), 1) := by decide +kernel
theorem dX5_picture_12 : decode cX5_picture 12 = .ok (.if_icmp .ne 5, 3) := by decide +kernel
theorem dX5_picture_15 : decode cX5_picture 15 = .ok (.iconst 0, 1) := by decide +kernel
theorem dX5_picture_16 : decode cX5_picture 16 = .ok (.ireturn, 1) := by decide +kernel
theorem dX5_picture_17 : decode cX5_picture 17 = .ok (.aload_n 0, 1) := by decide +kernel
theorem dX5_picture_18 : decode cX5_picture 18 = .ok (.getfield 43, 3) := by decide +kernel
theorem dX5_picture_21 : decode cX5_picture 21 = .ok (.iload 4, 2) := by decide +kernel
theorem dX5_picture_23 : decode cX5_picture 23 = .ok (.iaload, 1) := by decide +kernel
theorem dX5_picture_24 : decode cX5_picture 24 = .ok (.ifCond .ne 11, 3) := by decide +kernel
theorem dX5_picture_27 : decode cX5_picture 27 = .ok (.aload_n 0, 1) := by decide +kernel
theorem dX5_picture_28 : decode cX5_picture 28 = .ok (.iconst 2, 1) := by decide +kernel
theorem dX5_picture_29 : decode cX5_picture 29 = .ok (.invokevirtual 87, 3) := by decide +kernel
theorem dX5_picture_32 : decode cX5_picture 32 = .ok (.goto 10, 3) := by decide +kernel
theorem dX5_picture_35 : decode cX5_picture 35 = .ok (.aload_n 0, 1) := by decide +kernel
theorem dX5_picture_36 : decode cX5_picture 36 = .ok (.getfield 46, 3) := by decide +kernel
theorem dX5_picture_39 : decode cX5_picture 39 = .ok (.iload 4, 2) := by decide +kernel
theorem dX5_picture_41 : decode cX5_picture 41 = .ok (.iaload, 1) := by decide +kernel
theorem dX5_picture_42 : decode cX5_picture 42 = .ok (.ireturn, 1) := by decide +kernel
set_option maxRecDepth 20000 in
theorem ggX5_pictureAnew_X5_tileAt : GoodIn wsX5_pictureAnew wsX5_tileAt := goodIn_r _ [6, 7, 8, 5, 9, 10, 11, 12, 13, 14, 38, 39, 40, 41, 42, 43, 44, 45, 46, 47, 48, 49, 50, 51, 52, 53, 54, 55, 56, 57] (by decide +kernel) (by decide +kernel)
set_option maxRecDepth 20000 in
theorem gX5_pictureAnew_X5_tileAt : GoodIn wsX5_pictureAnew (wsV RX5 123 RX5 yX5_tileAt wsX5_tileAt) := goodIn_app (goodIn_of _ (by decide +kernel)) ggX5_pictureAnew_X5_tileAt
set_option maxRecDepth 20000 in
theorem ggX5_pictureAnew_X5_fails : GoodIn wsX5_pictureAnew wsX5_fails := goodIn_r _ [18, 14, 38, 39, 40, 41, 42, 43, 44, 45, 46, 47, 48, 49, 50, 51, 52, 53, 54, 55, 56, 57] (by decide +kernel) (by decide +kernel)
set_option maxRecDepth 20000 in
theorem gX5_pictureAnew_X5_fails : GoodIn wsX5_pictureAnew (wsV RX5 87 RX5 yX5_fails wsX5_fails) := goodIn_app (goodIn_of _ (by decide +kernel)) ggX5_pictureAnew_X5_fails
set_option maxRecDepth 20000 in
theorem ggX5_pictureAnew_X5_drawn : GoodIn wsX5_pictureAnew wsX5_drawn := goodIn_r _ [22, 23, 24, 25, 26, 27, 28, 5, 29, 30, 31, 32, 33, 34, 35, 36, 37, 38, 39, 40, 41, 42, 43, 44, 45, 46, 47, 48, 49, 50, 51, 52, 53, 54, 55, 56, 57] (by decide +kernel) (by decide +kernel)
set_option maxRecDepth 20000 in
theorem gX5_pictureAnew_X5_drawn : GoodIn wsX5_pictureAnew (wsV RX5 119 RX5 yX5_drawn wsX5_drawn) := goodIn_app (goodIn_of _ (by decide +kernel)) ggX5_pictureAnew_X5_drawn
theorem dX5_pictureAnew_0 : decode cX5_pictureAnew 0 = .ok (.aload_n 0, 1) := by decide +kernel
theorem dX5_pictureAnew_1 : decode cX5_pictureAnew 1 = .ok (.iload_n 1, 1) := by decide +kernel
theorem dX5_pictureAnew_2 : decode cX5_pictureAnew 2 = .ok (.iload_n 2, 1) := by decide +kernel
theorem dX5_pictureAnew_3 : decode cX5_pictureAnew 3 = .ok (.iload_n 3, 1) := by decide +kernel
theorem dX5_pictureAnew_4 : decode cX5_pictureAnew 4 = .ok (.invokevirtual 123, 3) := by decide +kernel
theorem dX5_pictureAnew_7 : decode cX5_pictureAnew 7 = .ok (.istore 4, 2) := by decide +kernel
theorem dX5_pictureAnew_9 : decode cX5_pictureAnew 9 = .ok (.iload 4, 2) := by decide +kernel
theorem dX5_pictureAnew_11 : decode cX5_pictureAnew 11 = .ok (.iconst (-1), 1) := by decide +kernel
theorem dX5_pictureAnew_12 : decode cX5_pictureAnew 12 = .ok (.if_icmp .ne 5, 3) := by decide +kernel
theorem dX5_pictureAnew_15 : decode cX5_pictureAnew 15 = .ok (.iconst 0, 1) := by decide +kernel
theorem dX5_pictureAnew_16 : decode cX5_pictureAnew 16 = .ok (.ireturn, 1) := by decide +kernel
theorem dX5_pictureAnew_17 : decode cX5_pictureAnew 17 = .ok (.aload_n 0, 1) := by decide +kernel
theorem dX5_pictureAnew_18 : decode cX5_pictureAnew 18 = .ok (.getfield 43, 3) := by decide +kernel
theorem dX5_pictureAnew_21 : decode cX5_pictureAnew 21 = .ok (.iload 4, 2) := by decide +kernel
theorem dX5_pictureAnew_23 : decode cX5_pictureAnew 23 = .ok (.iaload, 1) := by decide +kernel
theorem dX5_pictureAnew_24 : decode cX5_pictureAnew 24 = .ok (.ifCond .ne 11, 3) := by decide +kernel
theorem dX5_pictureAnew_27 : decode cX5_pictureAnew 27 = .ok (.aload_n 0, 1) := by decide +kernel
theorem dX5_pictureAnew_28 : decode cX5_pictureAnew 28 = .ok (.iconst 2, 1) := by decide +kernel
theorem dX5_pictureAnew_29 : decode cX5_pictureAnew 29 = .ok (.invokevirtual 87, 3) := by decide +kernel
theorem dX5_pictureAnew_32 : decode cX5_pictureAnew 32 = .ok (.goto 19, 3) := by decide +kernel
theorem dX5_pictureAnew_35 : decode cX5_pictureAnew 35 = .ok (.aload_n 0, 1) := by decide +kernel
theorem dX5_pictureAnew_36 : decode cX5_pictureAnew 36 = .ok (.iload_n 1, 1) := by decide +kernel
theorem dX5_pictureAnew_37 : decode cX5_pictureAnew 37 = .ok (.iload_n 2, 1) := by decide +kernel
theorem dX5_pictureAnew_38 : decode cX5_pictureAnew 38 = .ok (.iload_n 3, 1) := by decide +kernel
theorem dX5_pictureAnew_39 : decode cX5_pictureAnew 39 = .ok (.aload_n 0, 1) := by decide +kernel
theorem dX5_pictureAnew_40 : decode cX5_pictureAnew 40 = .ok (.getfield 43, 3) := by decide +kernel
theorem dX5_pictureAnew_43 : decode cX5_pictureAnew 43 = .ok (.iload 4, 2) := by decide +kernel
theorem dX5_pictureAnew_45 : decode cX5_pictureAnew 45 = .ok (.iaload, 1) := by decide +kernel
theorem dX5_pictureAnew_46 : decode cX5_pictureAnew 46 = .ok (.iconst 1, 1) := by decide +kernel
theorem dX5_pictureAnew_47 : decode cX5_pictureAnew 47 = .ok (.isub, 1) := by decide +kernel
theorem dX5_pictureAnew_48 : decode cX5_pictureAnew 48 = .ok (.invokevirtual 119, 3) := by decide +kernel
theorem dX5_pictureAnew_51 : decode cX5_pictureAnew 51 = .ok (.ireturn, 1) := by decide +kernel
set_option maxRecDepth 20000 in
theorem ggX5_tileStamp_X5_tileAt : GoodIn wsX5_tileStamp wsX5_tileAt := goodIn_r _ [6, 7, 8, 5, 9, 10, 11, 12, 13, 14, 15, 16, 17, 18, 19, 20, 21, 22, 23, 24, 25, 26, 27, 28, 29, 30, 31, 32, 33, 34] (by decide +kernel) (by decide +kernel)
set_option maxRecDepth 20000 in
theorem gX5_tileStamp_X5_tileAt : GoodIn wsX5_tileStamp (wsV RX5 123 RX5 yX5_tileAt wsX5_tileAt) := goodIn_app (goodIn_of _ (by decide +kernel)) ggX5_tileStamp_X5_tileAt
theorem dX5_tileStamp_0 : decode cX5_tileStamp 0 = .ok (.aload_n 0, 1) := by decide +kernel
theorem dX5_tileStamp_1 : decode cX5_tileStamp 1 = .ok (.iload_n 1, 1) := by decide +kernel
theorem dX5_tileStamp_2 : decode cX5_tileStamp 2 = .ok (.iload_n 2, 1) := by decide +kernel
theorem dX5_tileStamp_3 : decode cX5_tileStamp 3 = .ok (.iload_n 3, 1) := by decide +kernel
theorem dX5_tileStamp_4 : decode cX5_tileStamp 4 = .ok (.invokevirtual 123, 3) := by decide +kernel
theorem dX5_tileStamp_7 : decode cX5_tileStamp 7 = .ok (.istore 4, 2) := by decide +kernel
theorem dX5_tileStamp_9 : decode cX5_tileStamp 9 = .ok (.iload 4, 2) := by decide +kernel
theorem dX5_tileStamp_11 : decode cX5_tileStamp 11 = .ok (.iconst (-1), 1) := by decide +kernel
theorem dX5_tileStamp_12 : decode cX5_tileStamp 12 = .ok (.if_icmp .ne 7, 3) := by decide +kernel
theorem dX5_tileStamp_15 : decode cX5_tileStamp 15 = .ok (.iconst 0, 1) := by decide +kernel
theorem dX5_tileStamp_16 : decode cX5_tileStamp 16 = .ok (.goto 12, 3) := by decide +kernel
theorem dX5_tileStamp_19 : decode cX5_tileStamp 19 = .ok (.aload_n 0, 1) := by decide +kernel
theorem dX5_tileStamp_20 : decode cX5_tileStamp 20 = .ok (.getfield 43, 3) := by decide +kernel
theorem dX5_tileStamp_23 : decode cX5_tileStamp 23 = .ok (.iload 4, 2) := by decide +kernel
theorem dX5_tileStamp_25 : decode cX5_tileStamp 25 = .ok (.iaload, 1) := by decide +kernel
theorem dX5_tileStamp_26 : decode cX5_tileStamp 26 = .ok (.iconst 1, 1) := by decide +kernel
theorem dX5_tileStamp_27 : decode cX5_tileStamp 27 = .ok (.isub, 1) := by decide +kernel
theorem dX5_tileStamp_28 : decode cX5_tileStamp 28 = .ok (.ireturn, 1) := by decide +kernel
set_option maxRecDepth 20000 in
theorem ggX5_isOld_X5_isShown : GoodIn wsX5_isOld wsX5_isShown := goodIn_r _ [8] (by decide +kernel) (by decide +kernel)
set_option maxRecDepth 20000 in
theorem gX5_isOld_X5_isShown : GoodIn wsX5_isOld (va_wsS RX5 112 yX5_isShown wsX5_isShown) := goodIn_app (goodIn_of _ (by decide +kernel)) ggX5_isOld_X5_isShown
set_option maxRecDepth 20000 in
theorem ggX5_isOld_X5_isIn : GoodIn wsX5_isOld wsX5_isIn := goodIn_r _ [12, 13, 14, 15, 16, 17, 18, 19, 20, 21, 22, 23, 24, 25, 26, 27, 28, 29, 30, 31, 32, 33, 34, 35, 36] (by decide +kernel) (by decide +kernel)
set_option maxRecDepth 20000 in
theorem gX5_isOld_X5_isIn : GoodIn wsX5_isOld (wsV RX5 115 RX5 yX5_isIn wsX5_isIn) := goodIn_app (goodIn_of _ (by decide +kernel)) ggX5_isOld_X5_isIn
theorem dX5_isOld_0 : decode cX5_isOld 0 = .ok (.iconst 0, 1) := by decide +kernel
theorem dX5_isOld_1 : decode cX5_isOld 1 = .ok (.istore 5, 2) := by decide +kernel
theorem dX5_isOld_3 : decode cX5_isOld 3 = .ok (.aload_n 0, 1) := by decide +kernel
theorem dX5_isOld_4 : decode cX5_isOld 4 = .ok (.getfield 43, 3) := by decide +kernel
theorem dX5_isOld_7 : decode cX5_isOld 7 = .ok (.iload_n 1, 1) := by decide +kernel
theorem dX5_isOld_8 : decode cX5_isOld 8 = .ok (.iaload, 1) := by decide +kernel
theorem dX5_isOld_9 : decode cX5_isOld 9 = .ok (.iconst 1, 1) := by decide +kernel
theorem dX5_isOld_10 : decode cX5_isOld 10 = .ok (.isub, 1) := by decide +kernel
theorem dX5_isOld_11 : decode cX5_isOld 11 = .ok (.istore 6, 2) := by decide +kernel
theorem dX5_isOld_13 : decode cX5_isOld 13 = .ok (.iload 6, 2) := by decide +kernel
theorem dX5_isOld_15 : decode cX5_isOld 15 = .ok (.aload_n 0, 1) := by decide +kernel
theorem dX5_isOld_16 : decode cX5_isOld 16 = .ok (.getfield 72, 3) := by decide +kernel
theorem dX5_isOld_19 : decode cX5_isOld 19 = .ok (.if_icmp .ge 108, 3) := by decide +kernel
theorem dX5_isOld_22 : decode cX5_isOld 22 = .ok (.aload_n 0, 1) := by decide +kernel
theorem dX5_isOld_23 : decode cX5_isOld 23 = .ok (.getfield 43, 3) := by decide +kernel
theorem dX5_isOld_26 : decode cX5_isOld 26 = .ok (.iload_n 1, 1) := by decide +kernel
theorem dX5_isOld_27 : decode cX5_isOld 27 = .ok (.iaload, 1) := by decide +kernel
theorem dX5_isOld_28 : decode cX5_isOld 28 = .ok (.ifCond .le 99, 3) := by decide +kernel
theorem dX5_isOld_31 : decode cX5_isOld 31 = .ok (.iload 5, 2) := by decide +kernel
theorem dX5_isOld_33 : decode cX5_isOld 33 = .ok (.ifCond .ne 94, 3) := by decide +kernel
theorem dX5_isOld_36 : decode cX5_isOld 36 = .ok (.aload_n 0, 1) := by decide +kernel
theorem dX5_isOld_37 : decode cX5_isOld 37 = .ok (.getfield 37, 3) := by decide +kernel
theorem dX5_isOld_40 : decode cX5_isOld 40 = .ok (.iload 6, 2) := by decide +kernel
theorem dX5_isOld_42 : decode cX5_isOld 42 = .ok (.iaload, 1) := by decide +kernel
theorem dX5_isOld_43 : decode cX5_isOld 43 = .ok (.iload_n 2, 1) := by decide +kernel
theorem dX5_isOld_44 : decode cX5_isOld 44 = .ok (.invokestatic 112, 3) := by decide +kernel
theorem dX5_isOld_47 : decode cX5_isOld 47 = .ok (.ifCond .ne 33, 3) := by decide +kernel
theorem dX5_isOld_50 : decode cX5_isOld 50 = .ok (.aload_n 0, 1) := by decide +kernel
theorem dX5_isOld_51 : decode cX5_isOld 51 = .ok (.getfield 40, 3) := by decide +kernel
theorem dX5_isOld_54 : decode cX5_isOld 54 = .ok (.iload 6, 2) := by decide +kernel
theorem dX5_isOld_56 : decode cX5_isOld 56 = .ok (.iaload, 1) := by decide +kernel
theorem dX5_isOld_57 : decode cX5_isOld 57 = .ok (.iconst (-1), 1) := by decide +kernel
theorem dX5_isOld_58 : decode cX5_isOld 58 = .ok (.if_icmp .eq 26, 3) := by decide +kernel
theorem dX5_isOld_61 : decode cX5_isOld 61 = .ok (.aload_n 0, 1) := by decide +kernel
theorem dX5_isOld_62 : decode cX5_isOld 62 = .ok (.getfield 37, 3) := by decide +kernel
theorem dX5_isOld_65 : decode cX5_isOld 65 = .ok (.aload_n 0, 1) := by decide +kernel
theorem dX5_isOld_66 : decode cX5_isOld 66 = .ok (.getfield 40, 3) := by decide +kernel
theorem dX5_isOld_69 : decode cX5_isOld 69 = .ok (.iload 6, 2) := by decide +kernel
theorem dX5_isOld_71 : decode cX5_isOld 71 = .ok (.iaload, 1) := by decide +kernel
theorem dX5_isOld_72 : decode cX5_isOld 72 = .ok (.iaload, 1) := by decide +kernel
theorem dX5_isOld_73 : decode cX5_isOld 73 = .ok (.iload_n 2, 1) := by decide +kernel
theorem dX5_isOld_74 : decode cX5_isOld 74 = .ok (.invokestatic 112, 3) := by decide +kernel
theorem dX5_isOld_77 : decode cX5_isOld 77 = .ok (.ifCond .eq 7, 3) := by decide +kernel
theorem dX5_isOld_80 : decode cX5_isOld 80 = .ok (.iconst 1, 1) := by decide +kernel
theorem dX5_isOld_81 : decode cX5_isOld 81 = .ok (.goto 4, 3) := by decide +kernel
theorem dX5_isOld_84 : decode cX5_isOld 84 = .ok (.iconst 0, 1) := by decide +kernel
theorem dX5_isOld_85 : decode cX5_isOld 85 = .ok (.istore 7, 2) := by decide +kernel
theorem dX5_isOld_87 : decode cX5_isOld 87 = .ok (.iload 7, 2) := by decide +kernel
theorem dX5_isOld_89 : decode cX5_isOld 89 = .ok (.ifCond .eq 29, 3) := by decide +kernel
theorem dX5_isOld_92 : decode cX5_isOld 92 = .ok (.aload_n 0, 1) := by decide +kernel
theorem dX5_isOld_93 : decode cX5_isOld 93 = .ok (.aload_n 0, 1) := by decide +kernel
theorem dX5_isOld_94 : decode cX5_isOld 94 = .ok (.getfield 37, 3) := by decide +kernel
theorem dX5_isOld_97 : decode cX5_isOld 97 = .ok (.iload 6, 2) := by decide +kernel
theorem dX5_isOld_99 : decode cX5_isOld 99 = .ok (.iaload, 1) := by decide +kernel
theorem dX5_isOld_100 : decode cX5_isOld 100 = .ok (.sipush 1000, 3) := by decide +kernel
theorem dX5_isOld_103 : decode cX5_isOld 103 = .ok (.idiv, 1) := by decide +kernel
theorem dX5_isOld_104 : decode cX5_isOld 104 = .ok (.iload_n 2, 1) := by decide +kernel
theorem dX5_isOld_105 : decode cX5_isOld 105 = .ok (.iload_n 3, 1) := by decide +kernel
theorem dX5_isOld_106 : decode cX5_isOld 106 = .ok (.iload 4, 2) := by decide +kernel
theorem dX5_isOld_108 : decode cX5_isOld 108 = .ok (.invokevirtual 115, 3) := by decide +kernel
theorem dX5_isOld_111 : decode cX5_isOld 111 = .ok (.ifCond .eq 7, 3) := by decide +kernel
theorem dX5_isOld_114 : decode cX5_isOld 114 = .ok (.iconst 1, 1) := by decide +kernel
theorem dX5_isOld_115 : decode cX5_isOld 115 = .ok (.goto 4, 3) := by decide +kernel
theorem dX5_isOld_118 : decode cX5_isOld 118 = .ok (.iconst 0, 1) := by decide +kernel
theorem dX5_isOld_119 : decode cX5_isOld 119 = .ok (.istore 5, 2) := by decide +kernel
theorem dX5_isOld_121 : decode cX5_isOld 121 = .ok (.iinc 6 1, 3) := by decide +kernel
theorem dX5_isOld_124 : decode cX5_isOld 124 = .ok (.goto (-111), 3) := by decide +kernel
theorem dX5_isOld_127 : decode cX5_isOld 127 = .ok (.iload 5, 2) := by decide +kernel
theorem dX5_isOld_129 : decode cX5_isOld 129 = .ok (.ireturn, 1) := by decide +kernel
set_option maxRecDepth 20000 in
theorem ggX5_isStale_X5_tileAt : GoodIn wsX5_isStale wsX5_tileAt := goodIn_r _ [5, 6, 7, 4, 8, 9, 10, 11, 12, 13, 33, 34, 35, 36, 37, 38, 39, 40, 41, 42, 43, 44, 45, 46, 47, 48, 49, 50, 51, 52] (by decide +kernel) (by decide +kernel)
set_option maxRecDepth 20000 in
theorem gX5_isStale_X5_tileAt : GoodIn wsX5_isStale (wsV RX5 123 RX5 yX5_tileAt wsX5_tileAt) := goodIn_app (goodIn_of _ (by decide +kernel)) ggX5_isStale_X5_tileAt
set_option maxRecDepth 20000 in
theorem ggX5_isStale_X5_isOld : GoodIn wsX5_isStale wsX5_isOld := goodIn_r _ [17, 18, 19, 20, 21, 22, 23, 4, 24, 25, 26, 27, 28, 29, 30, 31, 32, 33, 34, 35, 36, 37, 38, 39, 40, 41, 42, 43, 44, 45, 46, 47, 48, 49, 50, 51, 52] (by decide +kernel) (by decide +kernel)
set_option maxRecDepth 20000 in
theorem gX5_isStale_X5_isOld : GoodIn wsX5_isStale (wsV RX5 130 RX5 yX5_isOld wsX5_isOld) := goodIn_app (goodIn_of _ (by decide +kernel)) ggX5_isStale_X5_isOld
theorem dX5_isStale_0 : decode cX5_isStale 0 = .ok (.aload_n 0, 1) := by decide +kernel
theorem dX5_isStale_1 : decode cX5_isStale 1 = .ok (.iload_n 1, 1) := by decide +kernel
theorem dX5_isStale_2 : decode cX5_isStale 2 = .ok (.iload_n 2, 1) := by decide +kernel
theorem dX5_isStale_3 : decode cX5_isStale 3 = .ok (.iload_n 3, 1) := by decide +kernel
theorem dX5_isStale_4 : decode cX5_isStale 4 = .ok (.invokevirtual 123, 3) := by decide +kernel
theorem dX5_isStale_7 : decode cX5_isStale 7 = .ok (.istore 4, 2) := by decide +kernel
theorem dX5_isStale_9 : decode cX5_isStale 9 = .ok (.iload 4, 2) := by decide +kernel
theorem dX5_isStale_11 : decode cX5_isStale 11 = .ok (.iconst (-1), 1) := by decide +kernel
theorem dX5_isStale_12 : decode cX5_isStale 12 = .ok (.if_icmp .eq 19, 3) := by decide +kernel
theorem dX5_isStale_15 : decode cX5_isStale 15 = .ok (.aload_n 0, 1) := by decide +kernel
theorem dX5_isStale_16 : decode cX5_isStale 16 = .ok (.iload 4, 2) := by decide +kernel
theorem dX5_isStale_18 : decode cX5_isStale 18 = .ok (.iload_n 1, 1) := by decide +kernel
theorem dX5_isStale_19 : decode cX5_isStale 19 = .ok (.iload_n 2, 1) := by decide +kernel
theorem dX5_isStale_20 : decode cX5_isStale 20 = .ok (.iload_n 3, 1) := by decide +kernel
theorem dX5_isStale_21 : decode cX5_isStale 21 = .ok (.invokevirtual 130, 3) := by decide +kernel
theorem dX5_isStale_24 : decode cX5_isStale 24 = .ok (.ifCond .eq 7, 3) := by decide +kernel
theorem dX5_isStale_27 : decode cX5_isStale 27 = .ok (.iconst 1, 1) := by decide +kernel
theorem dX5_isStale_28 : decode cX5_isStale 28 = .ok (.goto 4, 3) := by decide +kernel
theorem dX5_isStale_31 : decode cX5_isStale 31 = .ok (.iconst 0, 1) := by decide +kernel
theorem dX5_isStale_32 : decode cX5_isStale 32 = .ok (.ireturn, 1) := by decide +kernel
set_option maxRecDepth 20000 in
theorem ggX5_stales_X5_isOld : GoodIn wsX5_stales wsX5_isOld := goodIn_r _ [5, 6, 7, 8, 9, 10, 11, 4, 12, 13, 14, 15, 16, 17, 18, 19, 20, 32, 33, 34, 35, 36, 37, 38, 39, 40, 41, 42, 43, 44, 45, 46, 47, 48, 49, 50, 51] (by decide +kernel) (by decide +kernel)
set_option maxRecDepth 20000 in
theorem gX5_stales_X5_isOld : GoodIn wsX5_stales (wsV RX5 130 RX5 yX5_isOld wsX5_isOld) := goodIn_app (goodIn_of _ (by decide +kernel)) ggX5_stales_X5_isOld
set_option maxRecDepth 20000 in
theorem ggX5_stales_X5_draws : GoodIn wsX5_stales wsX5_draws := goodIn_r _ [24, 25, 7, 6, 26, 27, 28, 4, 29, 30, 31, 9, 8, 10, 11, 12, 13, 14, 15, 16, 17, 18, 19, 20, 32, 33, 34, 35, 36, 37, 38, 39, 40, 41, 42, 43, 44, 45, 46, 47, 48, 49, 50, 51] (by decide +kernel) (by decide +kernel)
set_option maxRecDepth 20000 in
theorem gX5_stales_X5_draws : GoodIn wsX5_stales (wsV RX5 127 RX5 yX5_draws wsX5_draws) := goodIn_app (goodIn_of _ (by decide +kernel)) ggX5_stales_X5_draws
theorem dX5_stales_0 : decode cX5_stales 0 = .ok (.iconst 1, 1) := by decide +kernel
theorem dX5_stales_1 : decode cX5_stales 1 = .ok (.iload_n 1, 1) := by decide +kernel
theorem dX5_stales_2 : decode cX5_stales 2 = .ok (.ishl, 1) := by decide +kernel
theorem dX5_stales_3 : decode cX5_stales 3 = .ok (.istore_n 3, 1) := by decide +kernel
theorem dX5_stales_4 : decode cX5_stales 4 = .ok (.iconst 0, 1) := by decide +kernel
theorem dX5_stales_5 : decode cX5_stales 5 = .ok (.istore 4, 2) := by decide +kernel
theorem dX5_stales_7 : decode cX5_stales 7 = .ok (.iconst 0, 1) := by decide +kernel
theorem dX5_stales_8 : decode cX5_stales 8 = .ok (.istore 5, 2) := by decide +kernel
theorem dX5_stales_10 : decode cX5_stales 10 = .ok (.iload 5, 2) := by decide +kernel
theorem dX5_stales_12 : decode cX5_stales 12 = .ok (.iload_n 3, 1) := by decide +kernel
theorem dX5_stales_13 : decode cX5_stales 13 = .ok (.iload_n 3, 1) := by decide +kernel
theorem dX5_stales_14 : decode cX5_stales 14 = .ok (.imul, 1) := by decide +kernel
theorem dX5_stales_15 : decode cX5_stales 15 = .ok (.if_icmp .ge 77, 3) := by decide +kernel
theorem dX5_stales_18 : decode cX5_stales 18 = .ok (.iload_n 3, 1) := by decide +kernel
theorem dX5_stales_19 : decode cX5_stales 19 = .ok (.iload_n 3, 1) := by decide +kernel
theorem dX5_stales_20 : decode cX5_stales 20 = .ok (.imul, 1) := by decide +kernel
theorem dX5_stales_21 : decode cX5_stales 21 = .ok (.iconst 1, 1) := by decide +kernel
theorem dX5_stales_22 : decode cX5_stales 22 = .ok (.isub, 1) := by decide +kernel
theorem dX5_stales_23 : decode cX5_stales 23 = .ok (.iconst 3, 1) := by decide +kernel
theorem dX5_stales_24 : decode cX5_stales 24 = .ok (.idiv, 1) := by decide +kernel
theorem dX5_stales_25 : decode cX5_stales 25 = .ok (.iload 5, 2) := by decide +kernel
theorem dX5_stales_27 : decode cX5_stales 27 = .ok (.iadd, 1) := by decide +kernel
theorem dX5_stales_28 : decode cX5_stales 28 = .ok (.istore 6, 2) := by decide +kernel
theorem dX5_stales_30 : decode cX5_stales 30 = .ok (.aload_n 0, 1) := by decide +kernel
theorem dX5_stales_31 : decode cX5_stales 31 = .ok (.iload 6, 2) := by decide +kernel
theorem dX5_stales_33 : decode cX5_stales 33 = .ok (.iload_n 1, 1) := by decide +kernel
theorem dX5_stales_34 : decode cX5_stales 34 = .ok (.iload 5, 2) := by decide +kernel
theorem dX5_stales_36 : decode cX5_stales 36 = .ok (.iload_n 3, 1) := by decide +kernel
theorem dX5_stales_37 : decode cX5_stales 37 = .ok (.irem, 1) := by decide +kernel
theorem dX5_stales_38 : decode cX5_stales 38 = .ok (.iload 5, 2) := by decide +kernel
theorem dX5_stales_40 : decode cX5_stales 40 = .ok (.iload_n 3, 1) := by decide +kernel
theorem dX5_stales_41 : decode cX5_stales 41 = .ok (.idiv, 1) := by decide +kernel
theorem dX5_stales_42 : decode cX5_stales 42 = .ok (.invokevirtual 130, 3) := by decide +kernel
theorem dX5_stales_45 : decode cX5_stales 45 = .ok (.istore 7, 2) := by decide +kernel
theorem dX5_stales_47 : decode cX5_stales 47 = .ok (.iload 4, 2) := by decide +kernel
theorem dX5_stales_49 : decode cX5_stales 49 = .ok (.iload 7, 2) := by decide +kernel
theorem dX5_stales_51 : decode cX5_stales 51 = .ok (.ifCond .eq 7, 3) := by decide +kernel
theorem dX5_stales_54 : decode cX5_stales 54 = .ok (.iconst 1, 1) := by decide +kernel
theorem dX5_stales_55 : decode cX5_stales 55 = .ok (.goto 4, 3) := by decide +kernel
theorem dX5_stales_58 : decode cX5_stales 58 = .ok (.iconst 0, 1) := by decide +kernel
theorem dX5_stales_59 : decode cX5_stales 59 = .ok (.iadd, 1) := by decide +kernel
theorem dX5_stales_60 : decode cX5_stales 60 = .ok (.istore 4, 2) := by decide +kernel
theorem dX5_stales_62 : decode cX5_stales 62 = .ok (.iload 7, 2) := by decide +kernel
theorem dX5_stales_64 : decode cX5_stales 64 = .ok (.ifCond .eq 22, 3) := by decide +kernel
theorem dX5_stales_67 : decode cX5_stales 67 = .ok (.iload_n 2, 1) := by decide +kernel
theorem dX5_stales_68 : decode cX5_stales 68 = .ok (.ifCond .eq 18, 3) := by decide +kernel
theorem dX5_stales_71 : decode cX5_stales 71 = .ok (.aload_n 0, 1) := by decide +kernel
theorem dX5_stales_72 : decode cX5_stales 72 = .ok (.iload 6, 2) := by decide +kernel
theorem dX5_stales_74 : decode cX5_stales 74 = .ok (.iload_n 1, 1) := by decide +kernel
theorem dX5_stales_75 : decode cX5_stales 75 = .ok (.iload 5, 2) := by decide +kernel
theorem dX5_stales_77 : decode cX5_stales 77 = .ok (.iload_n 3, 1) := by decide +kernel
theorem dX5_stales_78 : decode cX5_stales 78 = .ok (.irem, 1) := by decide +kernel
theorem dX5_stales_79 : decode cX5_stales 79 = .ok (.iload 5, 2) := by decide +kernel
theorem dX5_stales_81 : decode cX5_stales 81 = .ok (.iload_n 3, 1) := by decide +kernel
theorem dX5_stales_82 : decode cX5_stales 82 = .ok (.idiv, 1) := by decide +kernel
theorem dX5_stales_83 : decode cX5_stales 83 = .ok (.invokevirtual 127, 3) := by decide +kernel
theorem dX5_stales_86 : decode cX5_stales 86 = .ok (.iinc 5 1, 3) := by decide +kernel
theorem dX5_stales_89 : decode cX5_stales 89 = .ok (.goto (-79), 3) := by decide +kernel
theorem dX5_stales_92 : decode cX5_stales 92 = .ok (.iload 4, 2) := by decide +kernel
theorem dX5_stales_94 : decode cX5_stales 94 = .ok (.ireturn, 1) := by decide +kernel
set_option maxRecDepth 20000 in
theorem ggX5_staleTiles_X5_in : GoodIn wsX5_staleTiles wsX5_in := goodIn_r _ [4] (by decide +kernel) (by decide +kernel)
set_option maxRecDepth 20000 in
theorem gX5_staleTiles_X5_in : GoodIn wsX5_staleTiles (va_wsS RX5 65 yX5_in wsX5_in) := goodIn_app (goodIn_of _ (by decide +kernel)) ggX5_staleTiles_X5_in
set_option maxRecDepth 20000 in
theorem ggX5_staleTiles_X5_asks : GoodIn wsX5_staleTiles wsX5_asks := goodIn_r _ [8, 9, 44, 45, 46, 47, 48, 49, 50, 51, 52, 53, 54, 55, 56, 57, 58, 59, 60, 61, 62, 63] (by decide +kernel) (by decide +kernel)
set_option maxRecDepth 20000 in
theorem gX5_staleTiles_X5_asks : GoodIn wsX5_staleTiles (wsV RX5 83 RX5 yX5_asks wsX5_asks) := goodIn_app (goodIn_of _ (by decide +kernel)) ggX5_staleTiles_X5_asks
set_option maxRecDepth 20000 in
theorem ggX5_staleTiles_X5_stales : GoodIn wsX5_staleTiles wsX5_stales := goodIn_r _ [13, 14, 15, 16, 3, 17, 18, 19, 20, 21, 22, 23, 24, 25, 26, 27, 28, 29, 30, 31, 32, 33, 34, 35, 36, 37, 38, 39, 40, 41, 42, 43, 44, 45, 46, 47, 48, 49, 50, 51, 52, 53, 54, 55, 56, 57, 58, 59, 60, 61, 62, 63] (by decide +kernel) (by decide +kernel)
set_option maxRecDepth 20000 in
theorem gX5_staleTiles_X5_stales : GoodIn wsX5_staleTiles (wsV RX5 133 RX5 yX5_stales wsX5_stales) := goodIn_app (goodIn_of _ (by decide +kernel)) ggX5_staleTiles_X5_stales
theorem dX5_staleTiles_0 : decode cX5_staleTiles 0 = .ok (.aload_n 0, 1) := by decide +kernel
theorem dX5_staleTiles_1 : decode cX5_staleTiles 1 = .ok (.iload_n 1, 1) := by decide +kernel
theorem dX5_staleTiles_2 : decode cX5_staleTiles 2 = .ok (.iconst 0, 1) := by decide +kernel
theorem dX5_staleTiles_3 : decode cX5_staleTiles 3 = .ok (.iconst 4, 1) := by decide +kernel
theorem dX5_staleTiles_4 : decode cX5_staleTiles 4 = .ok (.invokestatic 65, 3) := by decide +kernel
theorem dX5_staleTiles_7 : decode cX5_staleTiles 7 = .ok (.invokevirtual 83, 3) := by decide +kernel
theorem dX5_staleTiles_10 : decode cX5_staleTiles 10 = .ok (.ifCond .eq 12, 3) := by decide +kernel
theorem dX5_staleTiles_13 : decode cX5_staleTiles 13 = .ok (.aload_n 0, 1) := by decide +kernel
theorem dX5_staleTiles_14 : decode cX5_staleTiles 14 = .ok (.iload_n 1, 1) := by decide +kernel
theorem dX5_staleTiles_15 : decode cX5_staleTiles 15 = .ok (.iconst 0, 1) := by decide +kernel
theorem dX5_staleTiles_16 : decode cX5_staleTiles 16 = .ok (.invokevirtual 133, 3) := by decide +kernel
theorem dX5_staleTiles_19 : decode cX5_staleTiles 19 = .ok (.goto 4, 3) := by decide +kernel
theorem dX5_staleTiles_22 : decode cX5_staleTiles 22 = .ok (.iconst 0, 1) := by decide +kernel
theorem dX5_staleTiles_23 : decode cX5_staleTiles 23 = .ok (.ireturn, 1) := by decide +kernel
set_option maxRecDepth 20000 in
theorem ggX5_refresh_X5_stales : GoodIn wsX5_refresh wsX5_stales := goodIn_r _ [6, 7, 8, 9, 5, 10, 11, 12, 13, 14, 15, 16, 17, 18, 19, 20, 21, 22, 23, 24, 25, 26, 27, 28, 29, 30, 31, 32, 33, 34, 35, 36, 37, 38, 39, 40, 41, 42, 43, 44, 45, 46, 47, 48, 49, 50, 51, 52, 53, 54, 55, 56] (by decide +kernel) (by decide +kernel)
set_option maxRecDepth 20000 in
theorem gX5_refresh_X5_stales : GoodIn wsX5_refresh (wsV RX5 133 RX5 yX5_stales wsX5_stales) := goodIn_app (goodIn_of _ (by decide +kernel)) ggX5_refresh_X5_stales
theorem dX5_refresh_0 : decode cX5_refresh 0 = .ok (.aload_n 0, 1) := by decide +kernel
theorem dX5_refresh_1 : decode cX5_refresh 1 = .ok (.iconst 0, 1) := by decide +kernel
theorem dX5_refresh_2 : decode cX5_refresh 2 = .ok (.putfield 61, 3) := by decide +kernel
theorem dX5_refresh_5 : decode cX5_refresh 5 = .ok (.iconst 0, 1) := by decide +kernel
theorem dX5_refresh_6 : decode cX5_refresh 6 = .ok (.istore_n 1, 1) := by decide +kernel
theorem dX5_refresh_7 : decode cX5_refresh 7 = .ok (.iconst 0, 1) := by decide +kernel
theorem dX5_refresh_8 : decode cX5_refresh 8 = .ok (.istore_n 2, 1) := by decide +kernel
theorem dX5_refresh_9 : decode cX5_refresh 9 = .ok (.iload_n 2, 1) := by decide +kernel
theorem dX5_refresh_10 : decode cX5_refresh 10 = .ok (.iconst 5, 1) := by decide +kernel
theorem dX5_refresh_11 : decode cX5_refresh 11 = .ok (.if_icmp .ge 18, 3) := by decide +kernel
theorem dX5_refresh_14 : decode cX5_refresh 14 = .ok (.iload_n 1, 1) := by decide +kernel
theorem dX5_refresh_15 : decode cX5_refresh 15 = .ok (.aload_n 0, 1) := by decide +kernel
theorem dX5_refresh_16 : decode cX5_refresh 16 = .ok (.iload_n 2, 1) := by decide +kernel
theorem dX5_refresh_17 : decode cX5_refresh 17 = .ok (.iconst 1, 1) := by decide +kernel
theorem dX5_refresh_18 : decode cX5_refresh 18 = .ok (.invokevirtual 133, 3) := by decide +kernel
theorem dX5_refresh_21 : decode cX5_refresh 21 = .ok (.iadd, 1) := by decide +kernel
theorem dX5_refresh_22 : decode cX5_refresh 22 = .ok (.istore_n 1, 1) := by decide +kernel
theorem dX5_refresh_23 : decode cX5_refresh 23 = .ok (.iinc 2 1, 3) := by decide +kernel
theorem dX5_refresh_26 : decode cX5_refresh 26 = .ok (.goto (-17), 3) := by decide +kernel
theorem dX5_refresh_29 : decode cX5_refresh 29 = .ok (.iload_n 1, 1) := by decide +kernel
theorem dX5_refresh_30 : decode cX5_refresh 30 = .ok (.ireturn, 1) := by decide +kernel
theorem dX5_isCar_0 : decode cX5_isCar 0 = .ok (.iload_n 0, 1) := by decide +kernel
theorem dX5_isCar_1 : decode cX5_isCar 1 = .ok (.ifCond .lt 12, 3) := by decide +kernel
theorem dX5_isCar_4 : decode cX5_isCar 4 = .ok (.iload_n 0, 1) := by decide +kernel
theorem dX5_isCar_5 : decode cX5_isCar 5 = .ok (.iconst 3, 1) := by decide +kernel
theorem dX5_isCar_6 : decode cX5_isCar 6 = .ok (.if_icmp .ge 7, 3) := by decide +kernel
theorem dX5_isCar_9 : decode cX5_isCar 9 = .ok (.iconst 1, 1) := by decide +kernel
theorem dX5_isCar_10 : decode cX5_isCar 10 = .ok (.goto 4, 3) := by decide +kernel
theorem dX5_isCar_13 : decode cX5_isCar 13 = .ok (.iconst 0, 1) := by decide +kernel
theorem dX5_isCar_14 : decode cX5_isCar 14 = .ok (.ireturn, 1) := by decide +kernel
theorem dX5_far_0 : decode cX5_far 0 = .ok (.aload_n 0, 1) := by decide +kernel
theorem dX5_far_1 : decode cX5_far 1 = .ok (.getfield 49, 3) := by decide +kernel
theorem dX5_far_4 : decode cX5_far 4 = .ok (.iload_n 1, 1) := by decide +kernel
theorem dX5_far_5 : decode cX5_far 5 = .ok (.iaload, 1) := by decide +kernel
theorem dX5_far_6 : decode cX5_far 6 = .ok (.iload_n 2, 1) := by decide +kernel
theorem dX5_far_7 : decode cX5_far 7 = .ok (.if_icmp .le 14, 3) := by decide +kernel
theorem dX5_far_10 : decode cX5_far 10 = .ok (.aload_n 0, 1) := by decide +kernel
theorem dX5_far_11 : decode cX5_far 11 = .ok (.getfield 49, 3) := by decide +kernel
theorem dX5_far_14 : decode cX5_far 14 = .ok (.iload_n 1, 1) := by decide +kernel
theorem dX5_far_15 : decode cX5_far 15 = .ok (.iaload, 1) := by decide +kernel
theorem dX5_far_16 : decode cX5_far 16 = .ok (.iload_n 2, 1) := by decide +kernel
theorem dX5_far_17 : decode cX5_far 17 = .ok (.isub, 1) := by decide +kernel
theorem dX5_far_18 : decode cX5_far 18 = .ok (.goto 11, 3) := by decide +kernel
theorem dX5_far_21 : decode cX5_far 21 = .ok (.iload_n 2, 1) := by decide +kernel
theorem dX5_far_22 : decode cX5_far 22 = .ok (.aload_n 0, 1) := by decide +kernel
theorem dX5_far_23 : decode cX5_far 23 = .ok (.getfield 49, 3) := by decide +kernel
theorem dX5_far_26 : decode cX5_far 26 = .ok (.iload_n 1, 1) := by decide +kernel
theorem dX5_far_27 : decode cX5_far 27 = .ok (.iaload, 1) := by decide +kernel
theorem dX5_far_28 : decode cX5_far 28 = .ok (.isub, 1) := by decide +kernel
theorem dX5_far_29 : decode cX5_far 29 = .ok (.istore 4, 2) := by decide +kernel
theorem dX5_far_31 : decode cX5_far 31 = .ok (.aload_n 0, 1) := by decide +kernel
theorem dX5_far_32 : decode cX5_far 32 = .ok (.getfield 52, 3) := by decide +kernel
theorem dX5_far_35 : decode cX5_far 35 = .ok (.iload_n 1, 1) := by decide +kernel
theorem dX5_far_36 : decode cX5_far 36 = .ok (.iaload, 1) := by decide +kernel
theorem dX5_far_37 : decode cX5_far 37 = .ok (.iload_n 3, 1) := by decide +kernel
theorem dX5_far_38 : decode cX5_far 38 = .ok (.if_icmp .le 14, 3) := by decide +kernel
theorem dX5_far_41 : decode cX5_far 41 = .ok (.aload_n 0, 1) := by decide +kernel
theorem dX5_far_42 : decode cX5_far 42 = .ok (.getfield 52, 3) := by decide +kernel
theorem dX5_far_45 : decode cX5_far 45 = .ok (.iload_n 1, 1) := by decide +kernel
theorem dX5_far_46 : decode cX5_far 46 = .ok (.iaload, 1) := by decide +kernel
theorem dX5_far_47 : decode cX5_far 47 = .ok (.iload_n 3, 1) := by decide +kernel
theorem dX5_far_48 : decode cX5_far 48 = .ok (.isub, 1) := by decide +kernel
theorem dX5_far_49 : decode cX5_far 49 = .ok (.goto 11, 3) := by decide +kernel
theorem dX5_far_52 : decode cX5_far 52 = .ok (.iload_n 3, 1) := by decide +kernel
theorem dX5_far_53 : decode cX5_far 53 = .ok (.aload_n 0, 1) := by decide +kernel
theorem dX5_far_54 : decode cX5_far 54 = .ok (.getfield 52, 3) := by decide +kernel
theorem dX5_far_57 : decode cX5_far 57 = .ok (.iload_n 1, 1) := by decide +kernel
theorem dX5_far_58 : decode cX5_far 58 = .ok (.iaload, 1) := by decide +kernel
theorem dX5_far_59 : decode cX5_far 59 = .ok (.isub, 1) := by decide +kernel
theorem dX5_far_60 : decode cX5_far 60 = .ok (.istore 5, 2) := by decide +kernel
theorem dX5_far_62 : decode cX5_far 62 = .ok (.iload 4, 2) := by decide +kernel
theorem dX5_far_64 : decode cX5_far 64 = .ok (.iload 5, 2) := by decide +kernel
theorem dX5_far_66 : decode cX5_far 66 = .ok (.iadd, 1) := by decide +kernel
theorem dX5_far_67 : decode cX5_far 67 = .ok (.ireturn, 1) := by decide +kernel
set_option maxRecDepth 20000 in
theorem ggX5_goes_X5_far : GoodIn wsX5_goes wsX5_far := goodIn_r _ [7, 1, 2, 8, 9, 10, 11, 12, 13, 14, 15, 16, 17, 18, 19, 20, 21, 22, 23, 24, 25, 26, 27] (by decide +kernel) (by decide +kernel)
set_option maxRecDepth 20000 in
theorem gX5_goes_X5_far : GoodIn wsX5_goes (wsV RX5 137 RX5 yX5_far wsX5_far) := goodIn_app (goodIn_of _ (by decide +kernel)) ggX5_goes_X5_far
theorem dX5_goes_0 : decode cX5_goes 0 = .ok (.aload_n 0, 1) := by decide +kernel
theorem dX5_goes_1 : decode cX5_goes 1 = .ok (.iload_n 1, 1) := by decide +kernel
theorem dX5_goes_2 : decode cX5_goes 2 = .ok (.iload_n 2, 1) := by decide +kernel
theorem dX5_goes_3 : decode cX5_goes 3 = .ok (.iload_n 3, 1) := by decide +kernel
theorem dX5_goes_4 : decode cX5_goes 4 = .ok (.invokevirtual 137, 3) := by decide +kernel
theorem dX5_goes_7 : decode cX5_goes 7 = .ok (.istore 4, 2) := by decide +kernel
theorem dX5_goes_9 : decode cX5_goes 9 = .ok (.aload_n 0, 1) := by decide +kernel
theorem dX5_goes_10 : decode cX5_goes 10 = .ok (.getfield 49, 3) := by decide +kernel
theorem dX5_goes_13 : decode cX5_goes 13 = .ok (.iload_n 1, 1) := by decide +kernel
theorem dX5_goes_14 : decode cX5_goes 14 = .ok (.iload_n 2, 1) := by decide +kernel
theorem dX5_goes_15 : decode cX5_goes 15 = .ok (.iastore, 1) := by decide +kernel
theorem dX5_goes_16 : decode cX5_goes 16 = .ok (.aload_n 0, 1) := by decide +kernel
theorem dX5_goes_17 : decode cX5_goes 17 = .ok (.getfield 52, 3) := by decide +kernel
theorem dX5_goes_20 : decode cX5_goes 20 = .ok (.iload_n 1, 1) := by decide +kernel
theorem dX5_goes_21 : decode cX5_goes 21 = .ok (.iload_n 3, 1) := by decide +kernel
theorem dX5_goes_22 : decode cX5_goes 22 = .ok (.iastore, 1) := by decide +kernel
theorem dX5_goes_23 : decode cX5_goes 23 = .ok (.iload 4, 2) := by decide +kernel
theorem dX5_goes_25 : decode cX5_goes 25 = .ok (.ireturn, 1) := by decide +kernel
set_option maxRecDepth 20000 in
theorem ggX5_drive_X5_isCar : GoodIn wsX5_drive wsX5_isCar := goodIn_r _ [4] (by decide +kernel) (by decide +kernel)
set_option maxRecDepth 20000 in
theorem gX5_drive_X5_isCar : GoodIn wsX5_drive (va_wsS RX5 140 yX5_isCar wsX5_isCar) := goodIn_app (goodIn_of _ (by decide +kernel)) ggX5_drive_X5_isCar
set_option maxRecDepth 20000 in
theorem ggX5_drive_X5_isCrossing : GoodIn wsX5_drive wsX5_isCrossing := goodIn_r _ [7, 8, 9, 3, 10] (by decide +kernel) (by decide +kernel)
set_option maxRecDepth 20000 in
theorem gX5_drive_X5_isCrossing : GoodIn wsX5_drive (va_wsS RX5 79 yX5_isCrossing wsX5_isCrossing) := goodIn_app (goodIn_of _ (by decide +kernel)) ggX5_drive_X5_isCrossing
set_option maxRecDepth 20000 in
theorem ggX5_drive_X5_asks : GoodIn wsX5_drive wsX5_asks := goodIn_r _ [14, 15, 26, 27, 28, 29, 30, 31, 32, 33, 34, 35, 36, 37, 38, 39, 40, 41, 42, 43, 44, 45] (by decide +kernel) (by decide +kernel)
set_option maxRecDepth 20000 in
theorem gX5_drive_X5_asks : GoodIn wsX5_drive (wsV RX5 83 RX5 yX5_asks wsX5_asks) := goodIn_app (goodIn_of _ (by decide +kernel)) ggX5_drive_X5_asks
set_option maxRecDepth 20000 in
theorem ggX5_drive_X5_goes : GoodIn wsX5_drive wsX5_goes := goodIn_r _ [19, 20, 21, 22, 23, 24, 3, 25, 26, 27, 28, 29, 30, 31, 32, 33, 34, 35, 36, 37, 38, 39, 40, 41, 42, 43, 44, 45] (by decide +kernel) (by decide +kernel)
set_option maxRecDepth 20000 in
theorem gX5_drive_X5_goes : GoodIn wsX5_drive (wsV RX5 143 RX5 yX5_goes wsX5_goes) := goodIn_app (goodIn_of _ (by decide +kernel)) ggX5_drive_X5_goes
theorem dX5_drive_0 : decode cX5_drive 0 = .ok (.aload_n 0, 1) := by decide +kernel
theorem dX5_drive_1 : decode cX5_drive 1 = .ok (.iload_n 1, 1) := by decide +kernel
theorem dX5_drive_2 : decode cX5_drive 2 = .ok (.invokestatic 140, 3) := by decide +kernel
theorem dX5_drive_5 : decode cX5_drive 5 = .ok (.ifCond .eq 15, 3) := by decide +kernel
theorem dX5_drive_8 : decode cX5_drive 8 = .ok (.iload_n 2, 1) := by decide +kernel
theorem dX5_drive_9 : decode cX5_drive 9 = .ok (.iload_n 3, 1) := by decide +kernel
theorem dX5_drive_10 : decode cX5_drive 10 = .ok (.invokestatic 79, 3) := by decide +kernel
theorem dX5_drive_13 : decode cX5_drive 13 = .ok (.ifCond .eq 7, 3) := by decide +kernel
theorem dX5_drive_16 : decode cX5_drive 16 = .ok (.iconst 1, 1) := by decide +kernel
theorem dX5_drive_17 : decode cX5_drive 17 = .ok (.goto 4, 3) := by decide +kernel
theorem dX5_drive_20 : decode cX5_drive 20 = .ok (.iconst 0, 1) := by decide +kernel
theorem dX5_drive_21 : decode cX5_drive 21 = .ok (.invokevirtual 83, 3) := by decide +kernel
theorem dX5_drive_24 : decode cX5_drive 24 = .ok (.ifCond .eq 13, 3) := by decide +kernel
theorem dX5_drive_27 : decode cX5_drive 27 = .ok (.aload_n 0, 1) := by decide +kernel
theorem dX5_drive_28 : decode cX5_drive 28 = .ok (.iload_n 1, 1) := by decide +kernel
theorem dX5_drive_29 : decode cX5_drive 29 = .ok (.iload_n 2, 1) := by decide +kernel
theorem dX5_drive_30 : decode cX5_drive 30 = .ok (.iload_n 3, 1) := by decide +kernel
theorem dX5_drive_31 : decode cX5_drive 31 = .ok (.invokevirtual 143, 3) := by decide +kernel
theorem dX5_drive_34 : decode cX5_drive 34 = .ok (.goto 4, 3) := by decide +kernel
theorem dX5_drive_37 : decode cX5_drive 37 = .ok (.iconst 0, 1) := by decide +kernel
theorem dX5_drive_38 : decode cX5_drive 38 = .ok (.ireturn, 1) := by decide +kernel
theorem dX5_clears_0 : decode cX5_clears 0 = .ok (.iconst 0, 1) := by decide +kernel
theorem dX5_clears_1 : decode cX5_clears 1 = .ok (.istore 5, 2) := by decide +kernel
theorem dX5_clears_3 : decode cX5_clears 3 = .ok (.iconst 0, 1) := by decide +kernel
theorem dX5_clears_4 : decode cX5_clears 4 = .ok (.istore 6, 2) := by decide +kernel
theorem dX5_clears_6 : decode cX5_clears 6 = .ok (.iload 6, 2) := by decide +kernel
theorem dX5_clears_8 : decode cX5_clears 8 = .ok (.aload_n 0, 1) := by decide +kernel
theorem dX5_clears_9 : decode cX5_clears 9 = .ok (.getfield 55, 3) := by decide +kernel
theorem dX5_clears_12 : decode cX5_clears 12 = .ok (.iload_n 1, 1) := by decide +kernel
theorem dX5_clears_13 : decode cX5_clears 13 = .ok (.iaload, 1) := by decide +kernel
theorem dX5_clears_14 : decode cX5_clears 14 = .ok (.if_icmp .ge 100, 3) := by decide +kernel
theorem dX5_clears_17 : decode cX5_clears 17 = .ok (.aload_n 0, 1) := by decide +kernel
theorem dX5_clears_18 : decode cX5_clears 18 = .ok (.getfield 58, 3) := by decide +kernel
theorem dX5_clears_21 : decode cX5_clears 21 = .ok (.bipush 9, 2) := by decide +kernel
theorem dX5_clears_23 : decode cX5_clears 23 = .ok (.iload_n 1, 1) := by decide +kernel
theorem dX5_clears_24 : decode cX5_clears 24 = .ok (.imul, 1) := by decide +kernel
theorem dX5_clears_25 : decode cX5_clears 25 = .ok (.iload 6, 2) := by decide +kernel
theorem dX5_clears_27 : decode cX5_clears 27 = .ok (.iadd, 1) := by decide +kernel
theorem dX5_clears_28 : decode cX5_clears 28 = .ok (.iaload, 1) := by decide +kernel
theorem dX5_clears_29 : decode cX5_clears 29 = .ok (.istore 7, 2) := by decide +kernel
theorem dX5_clears_31 : decode cX5_clears 31 = .ok (.iload 7, 2) := by decide +kernel
theorem dX5_clears_33 : decode cX5_clears 33 = .ok (.iconst 4, 1) := by decide +kernel
theorem dX5_clears_34 : decode cX5_clears 34 = .ok (.idiv, 1) := by decide +kernel
theorem dX5_clears_35 : decode cX5_clears 35 = .ok (.iconst 4, 1) := by decide +kernel
theorem dX5_clears_36 : decode cX5_clears 36 = .ok (.irem, 1) := by decide +kernel
theorem dX5_clears_37 : decode cX5_clears 37 = .ok (.iload_n 3, 1) := by decide +kernel
theorem dX5_clears_38 : decode cX5_clears 38 = .ok (.if_icmp .ne 7, 3) := by decide +kernel
theorem dX5_clears_41 : decode cX5_clears 41 = .ok (.iconst 1, 1) := by decide +kernel
theorem dX5_clears_42 : decode cX5_clears 42 = .ok (.goto 4, 3) := by decide +kernel
theorem dX5_clears_45 : decode cX5_clears 45 = .ok (.iconst 0, 1) := by decide +kernel
theorem dX5_clears_46 : decode cX5_clears 46 = .ok (.istore 8, 2) := by decide +kernel
theorem dX5_clears_48 : decode cX5_clears 48 = .ok (.iload 8, 2) := by decide +kernel
theorem dX5_clears_50 : decode cX5_clears 50 = .ok (.ifCond .eq 19, 3) := by decide +kernel
theorem dX5_clears_53 : decode cX5_clears 53 = .ok (.iload 7, 2) := by decide +kernel
theorem dX5_clears_55 : decode cX5_clears 55 = .ok (.iconst 4, 1) := by decide +kernel
theorem dX5_clears_56 : decode cX5_clears 56 = .ok (.irem, 1) := by decide +kernel
theorem dX5_clears_57 : decode cX5_clears 57 = .ok (.iload_n 2, 1) := by decide +kernel
theorem dX5_clears_58 : decode cX5_clears 58 = .ok (.if_icmp .ne 7, 3) := by decide +kernel
theorem dX5_clears_61 : decode cX5_clears 61 = .ok (.iconst 1, 1) := by decide +kernel
theorem dX5_clears_62 : decode cX5_clears 62 = .ok (.goto 22, 3) := by decide +kernel
theorem dX5_clears_65 : decode cX5_clears 65 = .ok (.iconst 0, 1) := by decide +kernel
theorem dX5_clears_66 : decode cX5_clears 66 = .ok (.goto 18, 3) := by decide +kernel
theorem dX5_clears_69 : decode cX5_clears 69 = .ok (.iload 7, 2) := by decide +kernel
theorem dX5_clears_71 : decode cX5_clears 71 = .ok (.bipush 16, 2) := by decide +kernel
theorem dX5_clears_73 : decode cX5_clears 73 = .ok (.idiv, 1) := by decide +kernel
theorem dX5_clears_74 : decode cX5_clears 74 = .ok (.iload 4, 2) := by decide +kernel
theorem dX5_clears_76 : decode cX5_clears 76 = .ok (.if_icmp .le 7, 3) := by decide +kernel
theorem dX5_clears_79 : decode cX5_clears 79 = .ok (.iconst 1, 1) := by decide +kernel
theorem dX5_clears_80 : decode cX5_clears 80 = .ok (.goto 4, 3) := by decide +kernel
theorem dX5_clears_83 : decode cX5_clears 83 = .ok (.iconst 0, 1) := by decide +kernel
theorem dX5_clears_84 : decode cX5_clears 84 = .ok (.istore 9, 2) := by decide +kernel
theorem dX5_clears_86 : decode cX5_clears 86 = .ok (.iload 9, 2) := by decide +kernel
theorem dX5_clears_88 : decode cX5_clears 88 = .ok (.ifCond .ne 20, 3) := by decide +kernel
theorem dX5_clears_91 : decode cX5_clears 91 = .ok (.aload_n 0, 1) := by decide +kernel
theorem dX5_clears_92 : decode cX5_clears 92 = .ok (.getfield 58, 3) := by decide +kernel
theorem dX5_clears_95 : decode cX5_clears 95 = .ok (.bipush 9, 2) := by decide +kernel
theorem dX5_clears_97 : decode cX5_clears 97 = .ok (.iload_n 1, 1) := by decide +kernel
theorem dX5_clears_98 : decode cX5_clears 98 = .ok (.imul, 1) := by decide +kernel
theorem dX5_clears_99 : decode cX5_clears 99 = .ok (.iload 5, 2) := by decide +kernel
theorem dX5_clears_101 : decode cX5_clears 101 = .ok (.iadd, 1) := by decide +kernel
theorem dX5_clears_102 : decode cX5_clears 102 = .ok (.iload 7, 2) := by decide +kernel
theorem dX5_clears_104 : decode cX5_clears 104 = .ok (.iastore, 1) := by decide +kernel
theorem dX5_clears_105 : decode cX5_clears 105 = .ok (.iinc 5 1, 3) := by decide +kernel
theorem dX5_clears_108 : decode cX5_clears 108 = .ok (.iinc 6 1, 3) := by decide +kernel
theorem dX5_clears_111 : decode cX5_clears 111 = .ok (.goto (-105), 3) := by decide +kernel
theorem dX5_clears_114 : decode cX5_clears 114 = .ok (.aload_n 0, 1) := by decide +kernel
theorem dX5_clears_115 : decode cX5_clears 115 = .ok (.getfield 55, 3) := by decide +kernel
theorem dX5_clears_118 : decode cX5_clears 118 = .ok (.iload_n 1, 1) := by decide +kernel
theorem dX5_clears_119 : decode cX5_clears 119 = .ok (.iload 5, 2) := by decide +kernel
theorem dX5_clears_121 : decode cX5_clears 121 = .ok (.iastore, 1) := by decide +kernel
theorem dX5_clears_122 : decode cX5_clears 122 = .ok (.return_, 1) := by decide +kernel
theorem dX5_agree_0 : decode cX5_agree 0 = .ok (.iconst 0, 1) := by decide +kernel
theorem dX5_agree_1 : decode cX5_agree 1 = .ok (.istore_n 3, 1) := by decide +kernel
theorem dX5_agree_2 : decode cX5_agree 2 = .ok (.iconst 0, 1) := by decide +kernel
theorem dX5_agree_3 : decode cX5_agree 3 = .ok (.istore 4, 2) := by decide +kernel
theorem dX5_agree_5 : decode cX5_agree 5 = .ok (.iload 4, 2) := by decide +kernel
theorem dX5_agree_7 : decode cX5_agree 7 = .ok (.aload_n 0, 1) := by decide +kernel
theorem dX5_agree_8 : decode cX5_agree 8 = .ok (.getfield 55, 3) := by decide +kernel
theorem dX5_agree_11 : decode cX5_agree 11 = .ok (.iload_n 1, 1) := by decide +kernel
theorem dX5_agree_12 : decode cX5_agree 12 = .ok (.iaload, 1) := by decide +kernel
theorem dX5_agree_13 : decode cX5_agree 13 = .ok (.aload_n 0, 1) := by decide +kernel
theorem dX5_agree_14 : decode cX5_agree 14 = .ok (.getfield 55, 3) := by decide +kernel
theorem dX5_agree_17 : decode cX5_agree 17 = .ok (.iload_n 1, 1) := by decide +kernel
theorem dX5_agree_18 : decode cX5_agree 18 = .ok (.iaload, 1) := by decide +kernel
theorem dX5_agree_19 : decode cX5_agree 19 = .ok (.imul, 1) := by decide +kernel
theorem dX5_agree_20 : decode cX5_agree 20 = .ok (.if_icmp .ge 123, 3) := by decide +kernel
theorem dX5_agree_23 : decode cX5_agree 23 = .ok (.aload_n 0, 1) := by decide +kernel
theorem dX5_agree_24 : decode cX5_agree 24 = .ok (.getfield 58, 3) := by decide +kernel
theorem dX5_agree_27 : decode cX5_agree 27 = .ok (.bipush 9, 2) := by decide +kernel
theorem dX5_agree_29 : decode cX5_agree 29 = .ok (.iload_n 1, 1) := by decide +kernel
theorem dX5_agree_30 : decode cX5_agree 30 = .ok (.imul, 1) := by decide +kernel
theorem dX5_agree_31 : decode cX5_agree 31 = .ok (.iload 4, 2) := by decide +kernel
theorem dX5_agree_33 : decode cX5_agree 33 = .ok (.aload_n 0, 1) := by decide +kernel
theorem dX5_agree_34 : decode cX5_agree 34 = .ok (.getfield 55, 3) := by decide +kernel
theorem dX5_agree_37 : decode cX5_agree 37 = .ok (.iload_n 1, 1) := by decide +kernel
theorem dX5_agree_38 : decode cX5_agree 38 = .ok (.iaload, 1) := by decide +kernel
theorem dX5_agree_39 : decode cX5_agree 39 = .ok (.idiv, 1) := by decide +kernel
theorem dX5_agree_40 : decode cX5_agree 40 = .ok (.iadd, 1) := by decide +kernel
theorem dX5_agree_41 : decode cX5_agree 41 = .ok (.iaload, 1) := by decide +kernel
theorem dX5_agree_42 : decode cX5_agree 42 = .ok (.istore 5, 2) := by decide +kernel
theorem dX5_agree_44 : decode cX5_agree 44 = .ok (.aload_n 0, 1) := by decide +kernel
theorem dX5_agree_45 : decode cX5_agree 45 = .ok (.getfield 58, 3) := by decide +kernel
theorem dX5_agree_48 : decode cX5_agree 48 = .ok (.bipush 9, 2) := by decide +kernel
theorem dX5_agree_50 : decode cX5_agree 50 = .ok (.iload_n 1, 1) := by decide +kernel
theorem dX5_agree_51 : decode cX5_agree 51 = .ok (.imul, 1) := by decide +kernel
theorem dX5_agree_52 : decode cX5_agree 52 = .ok (.iload 4, 2) := by decide +kernel
theorem dX5_agree_54 : decode cX5_agree 54 = .ok (.aload_n 0, 1) := by decide +kernel
theorem dX5_agree_55 : decode cX5_agree 55 = .ok (.getfield 55, 3) := by decide +kernel
theorem dX5_agree_58 : decode cX5_agree 58 = .ok (.iload_n 1, 1) := by decide +kernel
theorem dX5_agree_59 : decode cX5_agree 59 = .ok (.iaload, 1) := by decide +kernel
theorem dX5_agree_60 : decode cX5_agree 60 = .ok (.irem, 1) := by decide +kernel
theorem dX5_agree_61 : decode cX5_agree 61 = .ok (.iadd, 1) := by decide +kernel
theorem dX5_agree_62 : decode cX5_agree 62 = .ok (.iaload, 1) := by decide +kernel
theorem dX5_agree_63 : decode cX5_agree 63 = .ok (.istore 6, 2) := by decide +kernel
theorem dX5_agree_65 : decode cX5_agree 65 = .ok (.iload 5, 2) := by decide +kernel
theorem dX5_agree_67 : decode cX5_agree 67 = .ok (.iconst 4, 1) := by decide +kernel
theorem dX5_agree_68 : decode cX5_agree 68 = .ok (.idiv, 1) := by decide +kernel
theorem dX5_agree_69 : decode cX5_agree 69 = .ok (.iconst 4, 1) := by decide +kernel
theorem dX5_agree_70 : decode cX5_agree 70 = .ok (.irem, 1) := by decide +kernel
theorem dX5_agree_71 : decode cX5_agree 71 = .ok (.iload_n 2, 1) := by decide +kernel
theorem dX5_agree_72 : decode cX5_agree 72 = .ok (.if_icmp .ne 28, 3) := by decide +kernel
theorem dX5_agree_75 : decode cX5_agree 75 = .ok (.iload 6, 2) := by decide +kernel
theorem dX5_agree_77 : decode cX5_agree 77 = .ok (.iconst 4, 1) := by decide +kernel
theorem dX5_agree_78 : decode cX5_agree 78 = .ok (.idiv, 1) := by decide +kernel
theorem dX5_agree_79 : decode cX5_agree 79 = .ok (.iconst 4, 1) := by decide +kernel
theorem dX5_agree_80 : decode cX5_agree 80 = .ok (.irem, 1) := by decide +kernel
theorem dX5_agree_81 : decode cX5_agree 81 = .ok (.iload_n 2, 1) := by decide +kernel
theorem dX5_agree_82 : decode cX5_agree 82 = .ok (.if_icmp .ne 18, 3) := by decide +kernel
theorem dX5_agree_85 : decode cX5_agree 85 = .ok (.iload 5, 2) := by decide +kernel
theorem dX5_agree_87 : decode cX5_agree 87 = .ok (.iconst 4, 1) := by decide +kernel
theorem dX5_agree_88 : decode cX5_agree 88 = .ok (.irem, 1) := by decide +kernel
theorem dX5_agree_89 : decode cX5_agree 89 = .ok (.iload 6, 2) := by decide +kernel
theorem dX5_agree_91 : decode cX5_agree 91 = .ok (.iconst 4, 1) := by decide +kernel
theorem dX5_agree_92 : decode cX5_agree 92 = .ok (.irem, 1) := by decide +kernel
theorem dX5_agree_93 : decode cX5_agree 93 = .ok (.if_icmp .eq 7, 3) := by decide +kernel
theorem dX5_agree_96 : decode cX5_agree 96 = .ok (.iconst 1, 1) := by decide +kernel
theorem dX5_agree_97 : decode cX5_agree 97 = .ok (.goto 4, 3) := by decide +kernel
theorem dX5_agree_100 : decode cX5_agree 100 = .ok (.iconst 0, 1) := by decide +kernel
theorem dX5_agree_101 : decode cX5_agree 101 = .ok (.istore 7, 2) := by decide +kernel
theorem dX5_agree_103 : decode cX5_agree 103 = .ok (.iload_n 3, 1) := by decide +kernel
theorem dX5_agree_104 : decode cX5_agree 104 = .ok (.ifCond .ne 27, 3) := by decide +kernel
theorem dX5_agree_107 : decode cX5_agree 107 = .ok (.iload 7, 2) := by decide +kernel
theorem dX5_agree_109 : decode cX5_agree 109 = .ok (.ifCond .eq 26, 3) := by decide +kernel
theorem dX5_agree_112 : decode cX5_agree 112 = .ok (.iload 5, 2) := by decide +kernel
theorem dX5_agree_114 : decode cX5_agree 114 = .ok (.bipush 16, 2) := by decide +kernel
theorem dX5_agree_116 : decode cX5_agree 116 = .ok (.idiv, 1) := by decide +kernel
theorem dX5_agree_117 : decode cX5_agree 117 = .ok (.iload 6, 2) := by decide +kernel
theorem dX5_agree_119 : decode cX5_agree 119 = .ok (.bipush 16, 2) := by decide +kernel
theorem dX5_agree_121 : decode cX5_agree 121 = .ok (.idiv, 1) := by decide +kernel
theorem dX5_agree_122 : decode cX5_agree 122 = .ok (.imul, 1) := by decide +kernel
theorem dX5_agree_123 : decode cX5_agree 123 = .ok (.bipush 100, 2) := by decide +kernel
theorem dX5_agree_125 : decode cX5_agree 125 = .ok (.idiv, 1) := by decide +kernel
theorem dX5_agree_126 : decode cX5_agree 126 = .ok (.bipush 20, 2) := by decide +kernel
theorem dX5_agree_128 : decode cX5_agree 128 = .ok (.if_icmp .gt 7, 3) := by decide +kernel
theorem dX5_agree_131 : decode cX5_agree 131 = .ok (.iconst 1, 1) := by decide +kernel
theorem dX5_agree_132 : decode cX5_agree 132 = .ok (.goto 4, 3) := by decide +kernel
theorem dX5_agree_135 : decode cX5_agree 135 = .ok (.iconst 0, 1) := by decide +kernel
theorem dX5_agree_136 : decode cX5_agree 136 = .ok (.istore_n 3, 1) := by decide +kernel
theorem dX5_agree_137 : decode cX5_agree 137 = .ok (.iinc 4 1, 3) := by decide +kernel
theorem dX5_agree_140 : decode cX5_agree 140 = .ok (.goto (-135), 3) := by decide +kernel
theorem dX5_agree_143 : decode cX5_agree 143 = .ok (.iload_n 3, 1) := by decide +kernel
theorem dX5_agree_144 : decode cX5_agree 144 = .ok (.ireturn, 1) := by decide +kernel
set_option maxRecDepth 20000 in
theorem ggX5_see_X5_isCar : GoodIn wsX5_see wsX5_isCar := goodIn_r _ [11] (by decide +kernel) (by decide +kernel)
set_option maxRecDepth 20000 in
theorem gX5_see_X5_isCar : GoodIn wsX5_see (va_wsS RX5 140 yX5_isCar wsX5_isCar) := goodIn_app (goodIn_of _ (by decide +kernel)) ggX5_see_X5_isCar
set_option maxRecDepth 20000 in
theorem ggX5_see_X5_isWay : GoodIn wsX5_see wsX5_isWay := goodIn_r _ [15, 16, 56, 57, 58, 59, 60, 61, 62, 63, 64, 65, 66, 67, 68, 69, 70, 71, 72, 73, 74, 75] (by decide +kernel) (by decide +kernel)
set_option maxRecDepth 20000 in
theorem gX5_see_X5_isWay : GoodIn wsX5_see (wsV RX5 95 RX5 yX5_isWay wsX5_isWay) := goodIn_app (goodIn_of _ (by decide +kernel)) ggX5_see_X5_isWay
set_option maxRecDepth 20000 in
theorem ggX5_see_X5_asks : GoodIn wsX5_see wsX5_asks := goodIn_r _ [20, 1, 56, 57, 58, 59, 60, 61, 62, 63, 64, 65, 66, 67, 68, 69, 70, 71, 72, 73, 74, 75] (by decide +kernel) (by decide +kernel)
set_option maxRecDepth 20000 in
theorem gX5_see_X5_asks : GoodIn wsX5_see (wsV RX5 83 RX5 yX5_asks wsX5_asks) := goodIn_app (goodIn_of _ (by decide +kernel)) ggX5_see_X5_asks
set_option maxRecDepth 20000 in
theorem ggX5_see_X5_in : GoodIn wsX5_see wsX5_in := goodIn_r _ [23] (by decide +kernel) (by decide +kernel)
set_option maxRecDepth 20000 in
theorem gX5_see_X5_in : GoodIn wsX5_see (va_wsS RX5 65 yX5_in wsX5_in) := goodIn_app (goodIn_of _ (by decide +kernel)) ggX5_see_X5_in
set_option maxRecDepth 20000 in
theorem ggX5_see_X5_far : GoodIn wsX5_see wsX5_far := goodIn_r _ [27, 28, 29, 56, 57, 58, 59, 60, 61, 62, 63, 64, 65, 66, 67, 68, 69, 70, 71, 72, 73, 74, 75] (by decide +kernel) (by decide +kernel)
set_option maxRecDepth 20000 in
theorem gX5_see_X5_far : GoodIn wsX5_see (wsV RX5 137 RX5 yX5_far wsX5_far) := goodIn_app (goodIn_of _ (by decide +kernel)) ggX5_see_X5_far
set_option maxRecDepth 20000 in
theorem ggX5_see_X5_clears : GoodIn wsX5_see wsX5_clears := goodIn_r _ [33, 7, 6, 56, 57, 58, 59, 60, 61, 62, 63, 64, 65, 66, 67, 68, 69, 70, 71, 72, 73, 74, 75] (by decide +kernel) (by decide +kernel)
set_option maxRecDepth 20000 in
theorem gX5_see_X5_clears : GoodIn wsX5_see (wsV RX5 146 RX5 yX5_clears wsX5_clears) := goodIn_app (goodIn_of _ (by decide +kernel)) ggX5_see_X5_clears
set_option maxRecDepth 20000 in
theorem ggX5_see_X5_directionNow : GoodIn wsX5_see wsX5_directionNow := goodIn_r _ [37, 38, 39, 56, 57, 58, 59, 60, 61, 62, 63, 64, 65, 66, 67, 68, 69, 70, 71, 72, 73, 74, 75] (by decide +kernel) (by decide +kernel)
set_option maxRecDepth 20000 in
theorem gX5_see_X5_directionNow : GoodIn wsX5_see (wsV RX5 101 RX5 yX5_directionNow wsX5_directionNow) := goodIn_app (goodIn_of _ (by decide +kernel)) ggX5_see_X5_directionNow
set_option maxRecDepth 20000 in
theorem ggX5_see_X5_agree : GoodIn wsX5_see wsX5_agree := goodIn_r _ [43, 7, 6, 56, 57, 58, 59, 60, 61, 62, 63, 64, 65, 66, 67, 68, 69, 70, 71, 72, 73, 74, 75] (by decide +kernel) (by decide +kernel)
set_option maxRecDepth 20000 in
theorem gX5_see_X5_agree : GoodIn wsX5_see (wsV RX5 149 RX5 yX5_agree wsX5_agree) := goodIn_app (goodIn_of _ (by decide +kernel)) ggX5_see_X5_agree
set_option maxRecDepth 20000 in
theorem ggX5_see_X5_kindNow : GoodIn wsX5_see wsX5_kindNow := goodIn_r _ [47, 38, 39, 56, 57, 58, 59, 60, 61, 62, 63, 64, 65, 66, 67, 68, 69, 70, 71, 72, 73, 74, 75] (by decide +kernel) (by decide +kernel)
set_option maxRecDepth 20000 in
theorem gX5_see_X5_kindNow : GoodIn wsX5_see (wsV RX5 98 RX5 yX5_kindNow wsX5_kindNow) := goodIn_app (goodIn_of _ (by decide +kernel)) ggX5_see_X5_kindNow
set_option maxRecDepth 20000 in
theorem ggX5_see_X5_makes : GoodIn wsX5_see wsX5_makes := goodIn_r _ [51, 38, 52, 53, 54, 39, 55, 56, 57, 58, 59, 60, 61, 62, 63, 64, 65, 66, 67, 68, 69, 70, 71, 72, 73, 74, 75] (by decide +kernel) (by decide +kernel)
set_option maxRecDepth 20000 in
theorem gX5_see_X5_makes : GoodIn wsX5_see (wsV RX5 91 RX5 yX5_makes wsX5_makes) := goodIn_app (goodIn_of _ (by decide +kernel)) ggX5_see_X5_makes
theorem dX5_see_0 : decode cX5_see 0 = .ok (.aload_n 0, 1) := by decide +kernel
theorem dX5_see_1 : decode cX5_see 1 = .ok (.iload_n 1, 1) := by decide +kernel
theorem dX5_see_2 : decode cX5_see 2 = .ok (.invokestatic 140, 3) := by decide +kernel
theorem dX5_see_5 : decode cX5_see 5 = .ok (.ifCond .eq 15, 3) := by decide +kernel
theorem dX5_see_8 : decode cX5_see 8 = .ok (.aload_n 0, 1) := by decide +kernel
theorem dX5_see_9 : decode cX5_see 9 = .ok (.iload_n 2, 1) := by decide +kernel
theorem dX5_see_10 : decode cX5_see 10 = .ok (.invokevirtual 95, 3) := by decide +kernel
theorem dX5_see_13 : decode cX5_see 13 = .ok (.ifCond .eq 7, 3) := by decide +kernel
theorem dX5_see_16 : decode cX5_see 16 = .ok (.iconst 1, 1) := by decide +kernel
theorem dX5_see_17 : decode cX5_see 17 = .ok (.goto 4, 3) := by decide +kernel
theorem dX5_see_20 : decode cX5_see 20 = .ok (.iconst 0, 1) := by decide +kernel
theorem dX5_see_21 : decode cX5_see 21 = .ok (.invokevirtual 83, 3) := by decide +kernel
theorem dX5_see_24 : decode cX5_see 24 = .ok (.ifCond .ne 5, 3) := by decide +kernel
theorem dX5_see_27 : decode cX5_see 27 = .ok (.iconst 0, 1) := by decide +kernel
theorem dX5_see_28 : decode cX5_see 28 = .ok (.ireturn, 1) := by decide +kernel
theorem dX5_see_29 : decode cX5_see 29 = .ok (.iload_n 3, 1) := by decide +kernel
theorem dX5_see_30 : decode cX5_see 30 = .ok (.iconst 0, 1) := by decide +kernel
theorem dX5_see_31 : decode cX5_see 31 = .ok (.iconst 2, 1) := by decide +kernel
theorem dX5_see_32 : decode cX5_see 32 = .ok (.invokestatic 65, 3) := by decide +kernel
theorem dX5_see_35 : decode cX5_see 35 = .ok (.ifCond .eq 14, 3) := by decide +kernel
theorem dX5_see_38 : decode cX5_see 38 = .ok (.iload 4, 2) := by decide +kernel
theorem dX5_see_40 : decode cX5_see 40 = .ok (.iconst 0, 1) := by decide +kernel
theorem dX5_see_41 : decode cX5_see 41 = .ok (.bipush 99, 2) := by decide +kernel
theorem dX5_see_43 : decode cX5_see 43 = .ok (.invokestatic 65, 3) := by decide +kernel
theorem dX5_see_46 : decode cX5_see 46 = .ok (.ifCond .ne 10, 3) := by decide +kernel
theorem dX5_see_49 : decode cX5_see 49 = .ok (.aload_n 0, 1) := by decide +kernel
theorem dX5_see_50 : decode cX5_see 50 = .ok (.iconst 2, 1) := by decide +kernel
theorem dX5_see_51 : decode cX5_see 51 = .ok (.putfield 61, 3) := by decide +kernel
theorem dX5_see_54 : decode cX5_see 54 = .ok (.iconst 0, 1) := by decide +kernel
theorem dX5_see_55 : decode cX5_see 55 = .ok (.ireturn, 1) := by decide +kernel
theorem dX5_see_56 : decode cX5_see 56 = .ok (.aload_n 0, 1) := by decide +kernel
theorem dX5_see_57 : decode cX5_see 57 = .ok (.iload_n 1, 1) := by decide +kernel
theorem dX5_see_58 : decode cX5_see 58 = .ok (.aload_n 0, 1) := by decide +kernel
theorem dX5_see_59 : decode cX5_see 59 = .ok (.getfield 13, 3) := by decide +kernel
theorem dX5_see_62 : decode cX5_see 62 = .ok (.iload_n 2, 1) := by decide +kernel
theorem dX5_see_63 : decode cX5_see 63 = .ok (.iaload, 1) := by decide +kernel
theorem dX5_see_64 : decode cX5_see 64 = .ok (.aload_n 0, 1) := by decide +kernel
theorem dX5_see_65 : decode cX5_see 65 = .ok (.getfield 16, 3) := by decide +kernel
theorem dX5_see_68 : decode cX5_see 68 = .ok (.iload_n 2, 1) := by decide +kernel
theorem dX5_see_69 : decode cX5_see 69 = .ok (.iaload, 1) := by decide +kernel
theorem dX5_see_70 : decode cX5_see 70 = .ok (.invokevirtual 137, 3) := by decide +kernel
theorem dX5_see_73 : decode cX5_see 73 = .ok (.ifCond .le 30, 3) := by decide +kernel
theorem dX5_see_76 : decode cX5_see 76 = .ok (.aload_n 0, 1) := by decide +kernel
theorem dX5_see_77 : decode cX5_see 77 = .ok (.iload_n 1, 1) := by decide +kernel
theorem dX5_see_78 : decode cX5_see 78 = .ok (.aload_n 0, 1) := by decide +kernel
theorem dX5_see_79 : decode cX5_see 79 = .ok (.getfield 19, 3) := by decide +kernel
theorem dX5_see_82 : decode cX5_see 82 = .ok (.iload_n 2, 1) := by decide +kernel
theorem dX5_see_83 : decode cX5_see 83 = .ok (.iaload, 1) := by decide +kernel
theorem dX5_see_84 : decode cX5_see 84 = .ok (.aload_n 0, 1) := by decide +kernel
theorem dX5_see_85 : decode cX5_see 85 = .ok (.getfield 22, 3) := by decide +kernel
theorem dX5_see_88 : decode cX5_see 88 = .ok (.iload_n 2, 1) := by decide +kernel
theorem dX5_see_89 : decode cX5_see 89 = .ok (.iaload, 1) := by decide +kernel
theorem dX5_see_90 : decode cX5_see 90 = .ok (.invokevirtual 137, 3) := by decide +kernel
theorem dX5_see_93 : decode cX5_see 93 = .ok (.ifCond .le 10, 3) := by decide +kernel
theorem dX5_see_96 : decode cX5_see 96 = .ok (.aload_n 0, 1) := by decide +kernel
theorem dX5_see_97 : decode cX5_see 97 = .ok (.iconst 3, 1) := by decide +kernel
theorem dX5_see_98 : decode cX5_see 98 = .ok (.putfield 61, 3) := by decide +kernel
theorem dX5_see_101 : decode cX5_see 101 = .ok (.iconst 0, 1) := by decide +kernel
theorem dX5_see_102 : decode cX5_see 102 = .ok (.ireturn, 1) := by decide +kernel
theorem dX5_see_103 : decode cX5_see 103 = .ok (.aload_n 0, 1) := by decide +kernel
theorem dX5_see_104 : decode cX5_see 104 = .ok (.iload_n 2, 1) := by decide +kernel
theorem dX5_see_105 : decode cX5_see 105 = .ok (.iload_n 1, 1) := by decide +kernel
theorem dX5_see_106 : decode cX5_see 106 = .ok (.iload_n 3, 1) := by decide +kernel
theorem dX5_see_107 : decode cX5_see 107 = .ok (.iload 4, 2) := by decide +kernel
theorem dX5_see_109 : decode cX5_see 109 = .ok (.invokevirtual 146, 3) := by decide +kernel
theorem dX5_see_112 : decode cX5_see 112 = .ok (.aload_n 0, 1) := by decide +kernel
theorem dX5_see_113 : decode cX5_see 113 = .ok (.getfield 58, 3) := by decide +kernel
theorem dX5_see_116 : decode cX5_see 116 = .ok (.bipush 9, 2) := by decide +kernel
theorem dX5_see_118 : decode cX5_see 118 = .ok (.iload_n 2, 1) := by decide +kernel
theorem dX5_see_119 : decode cX5_see 119 = .ok (.imul, 1) := by decide +kernel
theorem dX5_see_120 : decode cX5_see 120 = .ok (.aload_n 0, 1) := by decide +kernel
theorem dX5_see_121 : decode cX5_see 121 = .ok (.getfield 55, 3) := by decide +kernel
theorem dX5_see_124 : decode cX5_see 124 = .ok (.iload_n 2, 1) := by decide +kernel
theorem dX5_see_125 : decode cX5_see 125 = .ok (.iaload, 1) := by decide +kernel
theorem dX5_see_126 : decode cX5_see 126 = .ok (.iadd, 1) := by decide +kernel
theorem dX5_see_127 : decode cX5_see 127 = .ok (.iload_n 1, 1) := by decide +kernel
theorem dX5_see_128 : decode cX5_see 128 = .ok (.iconst 4, 1) := by decide +kernel
theorem dX5_see_129 : decode cX5_see 129 = .ok (.iload_n 3, 1) := by decide +kernel
theorem dX5_see_130 : decode cX5_see 130 = .ok (.imul, 1) := by decide +kernel
theorem dX5_see_131 : decode cX5_see 131 = .ok (.iadd, 1) := by decide +kernel
theorem dX5_see_132 : decode cX5_see 132 = .ok (.bipush 16, 2) := by decide +kernel
theorem dX5_see_134 : decode cX5_see 134 = .ok (.iload 4, 2) := by decide +kernel
theorem dX5_see_136 : decode cX5_see 136 = .ok (.imul, 1) := by decide +kernel
theorem dX5_see_137 : decode cX5_see 137 = .ok (.iadd, 1) := by decide +kernel
theorem dX5_see_138 : decode cX5_see 138 = .ok (.iastore, 1) := by decide +kernel
theorem dX5_see_139 : decode cX5_see 139 = .ok (.aload_n 0, 1) := by decide +kernel
theorem dX5_see_140 : decode cX5_see 140 = .ok (.getfield 55, 3) := by decide +kernel
theorem dX5_see_143 : decode cX5_see 143 = .ok (.iload_n 2, 1) := by decide +kernel
theorem dX5_see_144 : decode cX5_see 144 = .ok (.dup2, 1) := by decide +kernel
theorem dX5_see_145 : decode cX5_see 145 = .ok (.iaload, 1) := by decide +kernel
theorem dX5_see_146 : decode cX5_see 146 = .ok (.iconst 1, 1) := by decide +kernel
theorem dX5_see_147 : decode cX5_see 147 = .ok (.iadd, 1) := by decide +kernel
theorem dX5_see_148 : decode cX5_see 148 = .ok (.iastore, 1) := by decide +kernel
theorem dX5_see_149 : decode cX5_see 149 = .ok (.aload_n 0, 1) := by decide +kernel
theorem dX5_see_150 : decode cX5_see 150 = .ok (.iload_n 2, 1) := by decide +kernel
theorem dX5_see_151 : decode cX5_see 151 = .ok (.invokevirtual 101, 3) := by decide +kernel
theorem dX5_see_154 : decode cX5_see 154 = .ok (.iload_n 3, 1) := by decide +kernel
theorem dX5_see_155 : decode cX5_see 155 = .ok (.if_icmp .eq 16, 3) := by decide +kernel
theorem dX5_see_158 : decode cX5_see 158 = .ok (.aload_n 0, 1) := by decide +kernel
theorem dX5_see_159 : decode cX5_see 159 = .ok (.iload_n 2, 1) := by decide +kernel
theorem dX5_see_160 : decode cX5_see 160 = .ok (.iload_n 3, 1) := by decide +kernel
theorem dX5_see_161 : decode cX5_see 161 = .ok (.invokevirtual 149, 3) := by decide +kernel
theorem dX5_see_164 : decode cX5_see 164 = .ok (.ifCond .eq 7, 3) := by decide +kernel
theorem dX5_see_167 : decode cX5_see 167 = .ok (.iconst 1, 1) := by decide +kernel
theorem dX5_see_168 : decode cX5_see 168 = .ok (.goto 4, 3) := by decide +kernel
theorem dX5_see_171 : decode cX5_see 171 = .ok (.iconst 0, 1) := by decide +kernel
theorem dX5_see_172 : decode cX5_see 172 = .ok (.istore 5, 2) := by decide +kernel
theorem dX5_see_174 : decode cX5_see 174 = .ok (.iload 5, 2) := by decide +kernel
theorem dX5_see_176 : decode cX5_see 176 = .ok (.ifCond .eq 22, 3) := by decide +kernel
theorem dX5_see_179 : decode cX5_see 179 = .ok (.aload_n 0, 1) := by decide +kernel
theorem dX5_see_180 : decode cX5_see 180 = .ok (.iload_n 2, 1) := by decide +kernel
theorem dX5_see_181 : decode cX5_see 181 = .ok (.aload_n 0, 1) := by decide +kernel
theorem dX5_see_182 : decode cX5_see 182 = .ok (.iload_n 2, 1) := by decide +kernel
theorem dX5_see_183 : decode cX5_see 183 = .ok (.invokevirtual 98, 3) := by decide +kernel
theorem dX5_see_186 : decode cX5_see 186 = .ok (.iload_n 3, 1) := by decide +kernel
theorem dX5_see_187 : decode cX5_see 187 = .ok (.iconst (-1), 1) := by decide +kernel
theorem dX5_see_188 : decode cX5_see 188 = .ok (.invokevirtual 91, 3) := by decide +kernel
theorem dX5_see_191 : decode cX5_see 191 = .ok (.aload_n 0, 1) := by decide +kernel
theorem dX5_see_192 : decode cX5_see 192 = .ok (.getfield 55, 3) := by decide +kernel
theorem dX5_see_195 : decode cX5_see 195 = .ok (.iload_n 2, 1) := by decide +kernel
theorem dX5_see_196 : decode cX5_see 196 = .ok (.iconst 0, 1) := by decide +kernel
theorem dX5_see_197 : decode cX5_see 197 = .ok (.iastore, 1) := by decide +kernel
theorem dX5_see_198 : decode cX5_see 198 = .ok (.iload 5, 2) := by decide +kernel
theorem dX5_see_200 : decode cX5_see 200 = .ok (.ireturn, 1) := by decide +kernel
set_option maxRecDepth 20000 in
theorem ggX5_sightings_X5_isWay : GoodIn wsX5_sightings wsX5_isWay := goodIn_r _ [6, 7, 13, 14, 15, 16, 17, 18, 19, 20, 21, 22, 23, 24, 25, 26, 27, 28, 29, 30, 31, 32] (by decide +kernel) (by decide +kernel)
set_option maxRecDepth 20000 in
theorem gX5_sightings_X5_isWay : GoodIn wsX5_sightings (wsV RX5 95 RX5 yX5_isWay wsX5_isWay) := goodIn_app (goodIn_of _ (by decide +kernel)) ggX5_sightings_X5_isWay
set_option maxRecDepth 20000 in
theorem ggX5_sightings_X5_asks : GoodIn wsX5_sightings wsX5_asks := goodIn_r _ [11, 12, 13, 14, 15, 16, 17, 18, 19, 20, 21, 22, 23, 24, 25, 26, 27, 28, 29, 30, 31, 32] (by decide +kernel) (by decide +kernel)
set_option maxRecDepth 20000 in
theorem gX5_sightings_X5_asks : GoodIn wsX5_sightings (wsV RX5 83 RX5 yX5_asks wsX5_asks) := goodIn_app (goodIn_of _ (by decide +kernel)) ggX5_sightings_X5_asks
theorem dX5_sightings_0 : decode cX5_sightings 0 = .ok (.aload_n 0, 1) := by decide +kernel
theorem dX5_sightings_1 : decode cX5_sightings 1 = .ok (.aload_n 0, 1) := by decide +kernel
theorem dX5_sightings_2 : decode cX5_sightings 2 = .ok (.iload_n 1, 1) := by decide +kernel
theorem dX5_sightings_3 : decode cX5_sightings 3 = .ok (.invokevirtual 95, 3) := by decide +kernel
theorem dX5_sightings_6 : decode cX5_sightings 6 = .ok (.invokevirtual 83, 3) := by decide +kernel
theorem dX5_sightings_9 : decode cX5_sightings 9 = .ok (.ifCond .eq 12, 3) := by decide +kernel
theorem dX5_sightings_12 : decode cX5_sightings 12 = .ok (.aload_n 0, 1) := by decide +kernel
theorem dX5_sightings_13 : decode cX5_sightings 13 = .ok (.getfield 55, 3) := by decide +kernel
theorem dX5_sightings_16 : decode cX5_sightings 16 = .ok (.iload_n 1, 1) := by decide +kernel
theorem dX5_sightings_17 : decode cX5_sightings 17 = .ok (.iaload, 1) := by decide +kernel
theorem dX5_sightings_18 : decode cX5_sightings 18 = .ok (.goto 4, 3) := by decide +kernel
theorem dX5_sightings_21 : decode cX5_sightings 21 = .ok (.iconst 0, 1) := by decide +kernel
theorem dX5_sightings_22 : decode cX5_sightings 22 = .ok (.ireturn, 1) := by decide +kernel
set_option maxRecDepth 20000 in
theorem ggX5_dearBy_X5_directionNow : GoodIn wsX5_dearBy wsX5_directionNow := goodIn_r _ [7, 8, 9, 14, 15, 16, 17, 18, 19, 20, 21, 22, 23, 24, 25, 26, 27, 28, 29, 30, 31, 32, 33] (by decide +kernel) (by decide +kernel)
set_option maxRecDepth 20000 in
theorem gX5_dearBy_X5_directionNow : GoodIn wsX5_dearBy (wsV RX5 101 RX5 yX5_directionNow wsX5_directionNow) := goodIn_app (goodIn_of _ (by decide +kernel)) ggX5_dearBy_X5_directionNow
set_option maxRecDepth 20000 in
theorem ggX5_dearBy_X5_kindNow : GoodIn wsX5_dearBy wsX5_kindNow := goodIn_r _ [13, 8, 9, 14, 15, 16, 17, 18, 19, 20, 21, 22, 23, 24, 25, 26, 27, 28, 29, 30, 31, 32, 33] (by decide +kernel) (by decide +kernel)
set_option maxRecDepth 20000 in
theorem gX5_dearBy_X5_kindNow : GoodIn wsX5_dearBy (wsV RX5 98 RX5 yX5_kindNow wsX5_kindNow) := goodIn_app (goodIn_of _ (by decide +kernel)) ggX5_dearBy_X5_kindNow
theorem dX5_dearBy_0 : decode cX5_dearBy 0 = .ok (.iconst 0, 1) := by decide +kernel
theorem dX5_dearBy_1 : decode cX5_dearBy 1 = .ok (.istore_n 2, 1) := by decide +kernel
theorem dX5_dearBy_2 : decode cX5_dearBy 2 = .ok (.iconst 0, 1) := by decide +kernel
theorem dX5_dearBy_3 : decode cX5_dearBy 3 = .ok (.istore_n 3, 1) := by decide +kernel
theorem dX5_dearBy_4 : decode cX5_dearBy 4 = .ok (.iload_n 3, 1) := by decide +kernel
theorem dX5_dearBy_5 : decode cX5_dearBy 5 = .ok (.aload_n 0, 1) := by decide +kernel
theorem dX5_dearBy_6 : decode cX5_dearBy 6 = .ok (.getfield 55, 3) := by decide +kernel
theorem dX5_dearBy_9 : decode cX5_dearBy 9 = .ok (.iload_n 1, 1) := by decide +kernel
theorem dX5_dearBy_10 : decode cX5_dearBy 10 = .ok (.iaload, 1) := by decide +kernel
theorem dX5_dearBy_11 : decode cX5_dearBy 11 = .ok (.if_icmp .ge 63, 3) := by decide +kernel
theorem dX5_dearBy_14 : decode cX5_dearBy 14 = .ok (.aload_n 0, 1) := by decide +kernel
theorem dX5_dearBy_15 : decode cX5_dearBy 15 = .ok (.getfield 58, 3) := by decide +kernel
theorem dX5_dearBy_18 : decode cX5_dearBy 18 = .ok (.bipush 9, 2) := by decide +kernel
theorem dX5_dearBy_20 : decode cX5_dearBy 20 = .ok (.iload_n 1, 1) := by decide +kernel
theorem dX5_dearBy_21 : decode cX5_dearBy 21 = .ok (.imul, 1) := by decide +kernel
theorem dX5_dearBy_22 : decode cX5_dearBy 22 = .ok (.iload_n 3, 1) := by decide +kernel
theorem dX5_dearBy_23 : decode cX5_dearBy 23 = .ok (.iadd, 1) := by decide +kernel
theorem dX5_dearBy_24 : decode cX5_dearBy 24 = .ok (.iaload, 1) := by decide +kernel
theorem dX5_dearBy_25 : decode cX5_dearBy 25 = .ok (.istore 4, 2) := by decide +kernel
theorem dX5_dearBy_27 : decode cX5_dearBy 27 = .ok (.iload 4, 2) := by decide +kernel
theorem dX5_dearBy_29 : decode cX5_dearBy 29 = .ok (.iconst 4, 1) := by decide +kernel
theorem dX5_dearBy_30 : decode cX5_dearBy 30 = .ok (.idiv, 1) := by decide +kernel
theorem dX5_dearBy_31 : decode cX5_dearBy 31 = .ok (.iconst 4, 1) := by decide +kernel
theorem dX5_dearBy_32 : decode cX5_dearBy 32 = .ok (.irem, 1) := by decide +kernel
theorem dX5_dearBy_33 : decode cX5_dearBy 33 = .ok (.aload_n 0, 1) := by decide +kernel
theorem dX5_dearBy_34 : decode cX5_dearBy 34 = .ok (.iload_n 1, 1) := by decide +kernel
theorem dX5_dearBy_35 : decode cX5_dearBy 35 = .ok (.invokevirtual 101, 3) := by decide +kernel
theorem dX5_dearBy_38 : decode cX5_dearBy 38 = .ok (.if_icmp .ne 7, 3) := by decide +kernel
theorem dX5_dearBy_41 : decode cX5_dearBy 41 = .ok (.iconst 0, 1) := by decide +kernel
theorem dX5_dearBy_42 : decode cX5_dearBy 42 = .ok (.goto 11, 3) := by decide +kernel
theorem dX5_dearBy_45 : decode cX5_dearBy 45 = .ok (.bipush 100, 2) := by decide +kernel
theorem dX5_dearBy_47 : decode cX5_dearBy 47 = .ok (.iload 4, 2) := by decide +kernel
theorem dX5_dearBy_49 : decode cX5_dearBy 49 = .ok (.bipush 16, 2) := by decide +kernel
theorem dX5_dearBy_51 : decode cX5_dearBy 51 = .ok (.idiv, 1) := by decide +kernel
theorem dX5_dearBy_52 : decode cX5_dearBy 52 = .ok (.isub, 1) := by decide +kernel
theorem dX5_dearBy_53 : decode cX5_dearBy 53 = .ok (.istore 5, 2) := by decide +kernel
theorem dX5_dearBy_55 : decode cX5_dearBy 55 = .ok (.iload 5, 2) := by decide +kernel
theorem dX5_dearBy_57 : decode cX5_dearBy 57 = .ok (.iload_n 2, 1) := by decide +kernel
theorem dX5_dearBy_58 : decode cX5_dearBy 58 = .ok (.if_icmp .le 8, 3) := by decide +kernel
theorem dX5_dearBy_61 : decode cX5_dearBy 61 = .ok (.iload 5, 2) := by decide +kernel
theorem dX5_dearBy_63 : decode cX5_dearBy 63 = .ok (.goto 4, 3) := by decide +kernel
theorem dX5_dearBy_66 : decode cX5_dearBy 66 = .ok (.iload_n 2, 1) := by decide +kernel
theorem dX5_dearBy_67 : decode cX5_dearBy 67 = .ok (.istore_n 2, 1) := by decide +kernel
theorem dX5_dearBy_68 : decode cX5_dearBy 68 = .ok (.iinc 3 1, 3) := by decide +kernel
theorem dX5_dearBy_71 : decode cX5_dearBy 71 = .ok (.goto (-67), 3) := by decide +kernel
theorem dX5_dearBy_74 : decode cX5_dearBy 74 = .ok (.iload_n 2, 1) := by decide +kernel
theorem dX5_dearBy_75 : decode cX5_dearBy 75 = .ok (.aload_n 0, 1) := by decide +kernel
theorem dX5_dearBy_76 : decode cX5_dearBy 76 = .ok (.iload_n 1, 1) := by decide +kernel
theorem dX5_dearBy_77 : decode cX5_dearBy 77 = .ok (.invokevirtual 98, 3) := by decide +kernel
theorem dX5_dearBy_80 : decode cX5_dearBy 80 = .ok (.iconst 1, 1) := by decide +kernel
theorem dX5_dearBy_81 : decode cX5_dearBy 81 = .ok (.iadd, 1) := by decide +kernel
theorem dX5_dearBy_82 : decode cX5_dearBy 82 = .ok (.imul, 1) := by decide +kernel
theorem dX5_dearBy_83 : decode cX5_dearBy 83 = .ok (.ireturn, 1) := by decide +kernel
set_option maxRecDepth 20000 in
theorem ggX5_dear_X5_isWay : GoodIn wsX5_dear wsX5_isWay := goodIn_r _ [5, 6, 28, 29, 30, 31, 32, 33, 34, 35, 36, 37, 38, 39, 40, 41, 42, 43, 44, 45, 46, 47] (by decide +kernel) (by decide +kernel)
set_option maxRecDepth 20000 in
theorem gX5_dear_X5_isWay : GoodIn wsX5_dear (wsV RX5 95 RX5 yX5_isWay wsX5_isWay) := goodIn_app (goodIn_of _ (by decide +kernel)) ggX5_dear_X5_isWay
set_option maxRecDepth 20000 in
theorem ggX5_dear_X5_asks : GoodIn wsX5_dear wsX5_asks := goodIn_r _ [10, 11, 28, 29, 30, 31, 32, 33, 34, 35, 36, 37, 38, 39, 40, 41, 42, 43, 44, 45, 46, 47] (by decide +kernel) (by decide +kernel)
set_option maxRecDepth 20000 in
theorem gX5_dear_X5_asks : GoodIn wsX5_dear (wsV RX5 83 RX5 yX5_asks wsX5_asks) := goodIn_app (goodIn_of _ (by decide +kernel)) ggX5_dear_X5_asks
set_option maxRecDepth 20000 in
theorem ggX5_dear_X5_dearBy : GoodIn wsX5_dear wsX5_dearBy := goodIn_r _ [15, 16, 17, 18, 19, 20, 4, 21, 22, 23, 24, 25, 26, 27, 28, 29, 30, 31, 32, 33, 34, 35, 36, 37, 38, 39, 40, 41, 42, 43, 44, 45, 46, 47] (by decide +kernel) (by decide +kernel)
set_option maxRecDepth 20000 in
theorem gX5_dear_X5_dearBy : GoodIn wsX5_dear (wsV RX5 152 RX5 yX5_dearBy wsX5_dearBy) := goodIn_app (goodIn_of _ (by decide +kernel)) ggX5_dear_X5_dearBy
theorem dX5_dear_0 : decode cX5_dear 0 = .ok (.aload_n 0, 1) := by decide +kernel
theorem dX5_dear_1 : decode cX5_dear 1 = .ok (.aload_n 0, 1) := by decide +kernel
theorem dX5_dear_2 : decode cX5_dear 2 = .ok (.iload_n 1, 1) := by decide +kernel
theorem dX5_dear_3 : decode cX5_dear 3 = .ok (.invokevirtual 95, 3) := by decide +kernel
theorem dX5_dear_6 : decode cX5_dear 6 = .ok (.invokevirtual 83, 3) := by decide +kernel
theorem dX5_dear_9 : decode cX5_dear 9 = .ok (.ifCond .eq 11, 3) := by decide +kernel
theorem dX5_dear_12 : decode cX5_dear 12 = .ok (.aload_n 0, 1) := by decide +kernel
theorem dX5_dear_13 : decode cX5_dear 13 = .ok (.iload_n 1, 1) := by decide +kernel
theorem dX5_dear_14 : decode cX5_dear 14 = .ok (.invokevirtual 152, 3) := by decide +kernel
theorem dX5_dear_17 : decode cX5_dear 17 = .ok (.goto 4, 3) := by decide +kernel
theorem dX5_dear_20 : decode cX5_dear 20 = .ok (.iconst 0, 1) := by decide +kernel
theorem dX5_dear_21 : decode cX5_dear 21 = .ok (.ireturn, 1) := by decide +kernel
set_option maxRecDepth 20000 in
theorem ggX5_nearest_X5_far : GoodIn wsX5_nearest wsX5_far := goodIn_r _ [9, 10, 11, 12, 13, 14, 15, 16, 17, 18, 19, 20, 21, 22, 23, 24, 25, 26, 27, 28, 29, 30, 31] (by decide +kernel) (by decide +kernel)
set_option maxRecDepth 20000 in
theorem gX5_nearest_X5_far : GoodIn wsX5_nearest (wsV RX5 137 RX5 yX5_far wsX5_far) := goodIn_app (goodIn_of _ (by decide +kernel)) ggX5_nearest_X5_far
theorem dX5_nearest_0 : decode cX5_nearest 0 = .ok (.aload_n 0, 1) := by decide +kernel
theorem dX5_nearest_1 : decode cX5_nearest 1 = .ok (.iload_n 1, 1) := by decide +kernel
theorem dX5_nearest_2 : decode cX5_nearest 2 = .ok (.aload_n 0, 1) := by decide +kernel
theorem dX5_nearest_3 : decode cX5_nearest 3 = .ok (.getfield 13, 3) := by decide +kernel
theorem dX5_nearest_6 : decode cX5_nearest 6 = .ok (.iload_n 2, 1) := by decide +kernel
theorem dX5_nearest_7 : decode cX5_nearest 7 = .ok (.iaload, 1) := by decide +kernel
theorem dX5_nearest_8 : decode cX5_nearest 8 = .ok (.aload_n 0, 1) := by decide +kernel
theorem dX5_nearest_9 : decode cX5_nearest 9 = .ok (.getfield 16, 3) := by decide +kernel
theorem dX5_nearest_12 : decode cX5_nearest 12 = .ok (.iload_n 2, 1) := by decide +kernel
theorem dX5_nearest_13 : decode cX5_nearest 13 = .ok (.iaload, 1) := by decide +kernel
theorem dX5_nearest_14 : decode cX5_nearest 14 = .ok (.invokevirtual 137, 3) := by decide +kernel
theorem dX5_nearest_17 : decode cX5_nearest 17 = .ok (.istore_n 3, 1) := by decide +kernel
theorem dX5_nearest_18 : decode cX5_nearest 18 = .ok (.aload_n 0, 1) := by decide +kernel
theorem dX5_nearest_19 : decode cX5_nearest 19 = .ok (.iload_n 1, 1) := by decide +kernel
theorem dX5_nearest_20 : decode cX5_nearest 20 = .ok (.aload_n 0, 1) := by decide +kernel
theorem dX5_nearest_21 : decode cX5_nearest 21 = .ok (.getfield 19, 3) := by decide +kernel
theorem dX5_nearest_24 : decode cX5_nearest 24 = .ok (.iload_n 2, 1) := by decide +kernel
theorem dX5_nearest_25 : decode cX5_nearest 25 = .ok (.iaload, 1) := by decide +kernel
theorem dX5_nearest_26 : decode cX5_nearest 26 = .ok (.aload_n 0, 1) := by decide +kernel
theorem dX5_nearest_27 : decode cX5_nearest 27 = .ok (.getfield 22, 3) := by decide +kernel
theorem dX5_nearest_30 : decode cX5_nearest 30 = .ok (.iload_n 2, 1) := by decide +kernel
theorem dX5_nearest_31 : decode cX5_nearest 31 = .ok (.iaload, 1) := by decide +kernel
theorem dX5_nearest_32 : decode cX5_nearest 32 = .ok (.invokevirtual 137, 3) := by decide +kernel
theorem dX5_nearest_35 : decode cX5_nearest 35 = .ok (.istore 4, 2) := by decide +kernel
theorem dX5_nearest_37 : decode cX5_nearest 37 = .ok (.iload_n 3, 1) := by decide +kernel
theorem dX5_nearest_38 : decode cX5_nearest 38 = .ok (.iload 4, 2) := by decide +kernel
theorem dX5_nearest_40 : decode cX5_nearest 40 = .ok (.if_icmp .ge 7, 3) := by decide +kernel
theorem dX5_nearest_43 : decode cX5_nearest 43 = .ok (.iload_n 3, 1) := by decide +kernel
theorem dX5_nearest_44 : decode cX5_nearest 44 = .ok (.goto 5, 3) := by decide +kernel
theorem dX5_nearest_47 : decode cX5_nearest 47 = .ok (.iload 4, 2) := by decide +kernel
theorem dX5_nearest_49 : decode cX5_nearest 49 = .ok (.ireturn, 1) := by decide +kernel
set_option maxRecDepth 20000 in
theorem ggX5_targetOf_X5_dearBy : GoodIn wsX5_targetOf wsX5_dearBy := goodIn_r _ [6, 7, 8, 9, 10, 11, 5, 12, 13, 14, 15, 16, 17, 18, 33, 34, 35, 36, 37, 38, 39, 40, 41, 42, 43, 44, 45, 46, 47, 48, 49, 50, 51, 52] (by decide +kernel) (by decide +kernel)
set_option maxRecDepth 20000 in
theorem gX5_targetOf_X5_dearBy : GoodIn wsX5_targetOf (wsV RX5 152 RX5 yX5_dearBy wsX5_dearBy) := goodIn_app (goodIn_of _ (by decide +kernel)) ggX5_targetOf_X5_dearBy
set_option maxRecDepth 20000 in
theorem ggX5_targetOf_X5_nearest : GoodIn wsX5_targetOf wsX5_nearest := goodIn_r _ [22, 23, 24, 25, 26, 27, 28, 29, 5, 30, 31, 32, 33, 34, 35, 36, 37, 38, 39, 40, 41, 42, 43, 44, 45, 46, 47, 48, 49, 50, 51, 52] (by decide +kernel) (by decide +kernel)
set_option maxRecDepth 20000 in
theorem gX5_targetOf_X5_nearest : GoodIn wsX5_targetOf (wsV RX5 155 RX5 yX5_nearest wsX5_nearest) := goodIn_app (goodIn_of _ (by decide +kernel)) ggX5_targetOf_X5_nearest
theorem dX5_targetOf_0 : decode cX5_targetOf 0 = .ok (.iconst (-1), 1) := by decide +kernel
theorem dX5_targetOf_1 : decode cX5_targetOf 1 = .ok (.istore_n 2, 1) := by decide +kernel
theorem dX5_targetOf_2 : decode cX5_targetOf 2 = .ok (.iconst 0, 1) := by decide +kernel
theorem dX5_targetOf_3 : decode cX5_targetOf 3 = .ok (.istore_n 3, 1) := by decide +kernel
theorem dX5_targetOf_4 : decode cX5_targetOf 4 = .ok (.iconst 0, 1) := by decide +kernel
theorem dX5_targetOf_5 : decode cX5_targetOf 5 = .ok (.istore 4, 2) := by decide +kernel
theorem dX5_targetOf_7 : decode cX5_targetOf 7 = .ok (.iload 4, 2) := by decide +kernel
theorem dX5_targetOf_9 : decode cX5_targetOf 9 = .ok (.aload_n 0, 1) := by decide +kernel
theorem dX5_targetOf_10 : decode cX5_targetOf 10 = .ok (.getfield 69, 3) := by decide +kernel
theorem dX5_targetOf_13 : decode cX5_targetOf 13 = .ok (.if_icmp .ge 56, 3) := by decide +kernel
theorem dX5_targetOf_16 : decode cX5_targetOf 16 = .ok (.aload_n 0, 1) := by decide +kernel
theorem dX5_targetOf_17 : decode cX5_targetOf 17 = .ok (.iload 4, 2) := by decide +kernel
theorem dX5_targetOf_19 : decode cX5_targetOf 19 = .ok (.invokevirtual 152, 3) := by decide +kernel
theorem dX5_targetOf_22 : decode cX5_targetOf 22 = .ok (.bipush 100, 2) := by decide +kernel
theorem dX5_targetOf_24 : decode cX5_targetOf 24 = .ok (.imul, 1) := by decide +kernel
theorem dX5_targetOf_25 : decode cX5_targetOf 25 = .ok (.iconst 1, 1) := by decide +kernel
theorem dX5_targetOf_26 : decode cX5_targetOf 26 = .ok (.aload_n 0, 1) := by decide +kernel
theorem dX5_targetOf_27 : decode cX5_targetOf 27 = .ok (.iload_n 1, 1) := by decide +kernel
theorem dX5_targetOf_28 : decode cX5_targetOf 28 = .ok (.iload 4, 2) := by decide +kernel
theorem dX5_targetOf_30 : decode cX5_targetOf 30 = .ok (.invokevirtual 155, 3) := by decide +kernel
theorem dX5_targetOf_33 : decode cX5_targetOf 33 = .ok (.iadd, 1) := by decide +kernel
theorem dX5_targetOf_34 : decode cX5_targetOf 34 = .ok (.idiv, 1) := by decide +kernel
theorem dX5_targetOf_35 : decode cX5_targetOf 35 = .ok (.istore 5, 2) := by decide +kernel
theorem dX5_targetOf_37 : decode cX5_targetOf 37 = .ok (.iload 5, 2) := by decide +kernel
theorem dX5_targetOf_39 : decode cX5_targetOf 39 = .ok (.iload_n 3, 1) := by decide +kernel
theorem dX5_targetOf_40 : decode cX5_targetOf 40 = .ok (.if_icmp .le 8, 3) := by decide +kernel
theorem dX5_targetOf_43 : decode cX5_targetOf 43 = .ok (.iload 4, 2) := by decide +kernel
theorem dX5_targetOf_45 : decode cX5_targetOf 45 = .ok (.goto 4, 3) := by decide +kernel
theorem dX5_targetOf_48 : decode cX5_targetOf 48 = .ok (.iload_n 2, 1) := by decide +kernel
theorem dX5_targetOf_49 : decode cX5_targetOf 49 = .ok (.istore_n 2, 1) := by decide +kernel
theorem dX5_targetOf_50 : decode cX5_targetOf 50 = .ok (.iload 5, 2) := by decide +kernel
theorem dX5_targetOf_52 : decode cX5_targetOf 52 = .ok (.iload_n 3, 1) := by decide +kernel
theorem dX5_targetOf_53 : decode cX5_targetOf 53 = .ok (.if_icmp .le 8, 3) := by decide +kernel
theorem dX5_targetOf_56 : decode cX5_targetOf 56 = .ok (.iload 5, 2) := by decide +kernel
theorem dX5_targetOf_58 : decode cX5_targetOf 58 = .ok (.goto 4, 3) := by decide +kernel
theorem dX5_targetOf_61 : decode cX5_targetOf 61 = .ok (.iload_n 3, 1) := by decide +kernel
theorem dX5_targetOf_62 : decode cX5_targetOf 62 = .ok (.istore_n 3, 1) := by decide +kernel
theorem dX5_targetOf_63 : decode cX5_targetOf 63 = .ok (.iinc 4 1, 3) := by decide +kernel
theorem dX5_targetOf_66 : decode cX5_targetOf 66 = .ok (.goto (-59), 3) := by decide +kernel
theorem dX5_targetOf_69 : decode cX5_targetOf 69 = .ok (.iload_n 2, 1) := by decide +kernel
theorem dX5_targetOf_70 : decode cX5_targetOf 70 = .ok (.ireturn, 1) := by decide +kernel
set_option maxRecDepth 20000 in
theorem ggX5_target_X5_isCar : GoodIn wsX5_target wsX5_isCar := goodIn_r _ [4] (by decide +kernel) (by decide +kernel)
set_option maxRecDepth 20000 in
theorem gX5_target_X5_isCar : GoodIn wsX5_target (va_wsS RX5 140 yX5_isCar wsX5_isCar) := goodIn_app (goodIn_of _ (by decide +kernel)) ggX5_target_X5_isCar
set_option maxRecDepth 20000 in
theorem ggX5_target_X5_asks : GoodIn wsX5_target wsX5_asks := goodIn_r _ [8, 9, 45, 46, 47, 48, 49, 50, 51, 52, 53, 54, 55, 56, 57, 58, 59, 60, 61, 62, 63, 64] (by decide +kernel) (by decide +kernel)
set_option maxRecDepth 20000 in
theorem gX5_target_X5_asks : GoodIn wsX5_target (wsV RX5 83 RX5 yX5_asks wsX5_asks) := goodIn_app (goodIn_of _ (by decide +kernel)) ggX5_target_X5_asks
set_option maxRecDepth 20000 in
theorem ggX5_target_X5_targetOf : GoodIn wsX5_target wsX5_targetOf := goodIn_r _ [13, 14, 15, 16, 17, 3, 18, 19, 20, 21, 22, 23, 24, 25, 26, 27, 28, 29, 30, 31, 32, 33, 34, 35, 36, 37, 38, 39, 40, 41, 42, 43, 44, 45, 46, 47, 48, 49, 50, 51, 52, 53, 54, 55, 56, 57, 58, 59, 60, 61, 62, 63, 64] (by decide +kernel) (by decide +kernel)
set_option maxRecDepth 20000 in
theorem gX5_target_X5_targetOf : GoodIn wsX5_target (wsV RX5 158 RX5 yX5_targetOf wsX5_targetOf) := goodIn_app (goodIn_of _ (by decide +kernel)) ggX5_target_X5_targetOf
theorem dX5_target_0 : decode cX5_target 0 = .ok (.aload_n 0, 1) := by decide +kernel
theorem dX5_target_1 : decode cX5_target 1 = .ok (.iload_n 1, 1) := by decide +kernel
theorem dX5_target_2 : decode cX5_target 2 = .ok (.invokestatic 140, 3) := by decide +kernel
theorem dX5_target_5 : decode cX5_target 5 = .ok (.invokevirtual 83, 3) := by decide +kernel
theorem dX5_target_8 : decode cX5_target 8 = .ok (.ifCond .eq 11, 3) := by decide +kernel
theorem dX5_target_11 : decode cX5_target 11 = .ok (.aload_n 0, 1) := by decide +kernel
theorem dX5_target_12 : decode cX5_target 12 = .ok (.iload_n 1, 1) := by decide +kernel
theorem dX5_target_13 : decode cX5_target 13 = .ok (.invokevirtual 158, 3) := by decide +kernel
theorem dX5_target_16 : decode cX5_target 16 = .ok (.goto 4, 3) := by decide +kernel
theorem dX5_target_19 : decode cX5_target 19 = .ok (.iconst 0, 1) := by decide +kernel
theorem dX5_target_20 : decode cX5_target 20 = .ok (.ireturn, 1) := by decide +kernel
set_option maxRecDepth 20000 in
theorem ggX5_send_X5_isCar : GoodIn wsX5_send wsX5_isCar := goodIn_r _ [8] (by decide +kernel) (by decide +kernel)
set_option maxRecDepth 20000 in
theorem gX5_send_X5_isCar : GoodIn wsX5_send (va_wsS RX5 140 yX5_isCar wsX5_isCar) := goodIn_app (goodIn_of _ (by decide +kernel)) ggX5_send_X5_isCar
set_option maxRecDepth 20000 in
theorem ggX5_send_X5_asks : GoodIn wsX5_send wsX5_asks := goodIn_r _ [12, 13, 53, 54, 55, 56, 57, 58, 59, 60, 61, 62, 63, 64, 65, 66, 67, 68, 69, 70, 71, 72] (by decide +kernel) (by decide +kernel)
set_option maxRecDepth 20000 in
theorem gX5_send_X5_asks : GoodIn wsX5_send (wsV RX5 83 RX5 yX5_asks wsX5_asks) := goodIn_app (goodIn_of _ (by decide +kernel)) ggX5_send_X5_asks
set_option maxRecDepth 20000 in
theorem ggX5_send_X5_targetOf : GoodIn wsX5_send wsX5_targetOf := goodIn_r _ [17, 18, 19, 20, 21, 7, 22, 23, 24, 25, 26, 27, 28, 29, 30, 31, 32, 33, 34, 35, 36, 37, 38, 1, 2, 3, 4, 39, 40, 41, 42, 43, 44, 53, 54, 55, 56, 57, 58, 59, 60, 61, 62, 63, 64, 65, 66, 67, 68, 69, 70, 71, 72] (by decide +kernel) (by decide +kernel)
set_option maxRecDepth 20000 in
theorem gX5_send_X5_targetOf : GoodIn wsX5_send (wsV RX5 158 RX5 yX5_targetOf wsX5_targetOf) := goodIn_app (goodIn_of _ (by decide +kernel)) ggX5_send_X5_targetOf
set_option maxRecDepth 20000 in
theorem ggX5_send_X5_fails : GoodIn wsX5_send wsX5_fails := goodIn_r _ [48, 13, 53, 54, 55, 56, 57, 58, 59, 60, 61, 62, 63, 64, 65, 66, 67, 68, 69, 70, 71, 72] (by decide +kernel) (by decide +kernel)
set_option maxRecDepth 20000 in
theorem gX5_send_X5_fails : GoodIn wsX5_send (wsV RX5 87 RX5 yX5_fails wsX5_fails) := goodIn_app (goodIn_of _ (by decide +kernel)) ggX5_send_X5_fails
set_option maxRecDepth 20000 in
theorem ggX5_send_X5_far : GoodIn wsX5_send wsX5_far := goodIn_r _ [42, 43, 44, 53, 54, 55, 56, 57, 58, 59, 60, 61, 62, 63, 64, 65, 66, 67, 68, 69, 70, 71, 72] (by decide +kernel) (by decide +kernel)
set_option maxRecDepth 20000 in
theorem gX5_send_X5_far : GoodIn wsX5_send (wsV RX5 137 RX5 yX5_far wsX5_far) := goodIn_app (goodIn_of _ (by decide +kernel)) ggX5_send_X5_far
set_option maxRecDepth 20000 in
theorem ggX5_send_X5_goes : GoodIn wsX5_send wsX5_goes := goodIn_r _ [52, 43, 44, 39, 40, 41, 7, 42, 53, 54, 55, 56, 57, 58, 59, 60, 61, 62, 63, 64, 65, 66, 67, 68, 69, 70, 71, 72] (by decide +kernel) (by decide +kernel)
set_option maxRecDepth 20000 in
theorem gX5_send_X5_goes : GoodIn wsX5_send (wsV RX5 143 RX5 yX5_goes wsX5_goes) := goodIn_app (goodIn_of _ (by decide +kernel)) ggX5_send_X5_goes
theorem dX5_send_0 : decode cX5_send 0 = .ok (.aload_n 0, 1) := by decide +kernel
theorem dX5_send_1 : decode cX5_send 1 = .ok (.iload_n 1, 1) := by decide +kernel
theorem dX5_send_2 : decode cX5_send 2 = .ok (.invokestatic 140, 3) := by decide +kernel
theorem dX5_send_5 : decode cX5_send 5 = .ok (.invokevirtual 83, 3) := by decide +kernel
theorem dX5_send_8 : decode cX5_send 8 = .ok (.ifCond .ne 5, 3) := by decide +kernel
theorem dX5_send_11 : decode cX5_send 11 = .ok (.iconst 0, 1) := by decide +kernel
theorem dX5_send_12 : decode cX5_send 12 = .ok (.ireturn, 1) := by decide +kernel
theorem dX5_send_13 : decode cX5_send 13 = .ok (.aload_n 0, 1) := by decide +kernel
theorem dX5_send_14 : decode cX5_send 14 = .ok (.iload_n 1, 1) := by decide +kernel
theorem dX5_send_15 : decode cX5_send 15 = .ok (.invokevirtual 158, 3) := by decide +kernel
theorem dX5_send_18 : decode cX5_send 18 = .ok (.istore_n 2, 1) := by decide +kernel
theorem dX5_send_19 : decode cX5_send 19 = .ok (.iload_n 2, 1) := by decide +kernel
theorem dX5_send_20 : decode cX5_send 20 = .ok (.iconst (-1), 1) := by decide +kernel
theorem dX5_send_21 : decode cX5_send 21 = .ok (.if_icmp .ne 9, 3) := by decide +kernel
theorem dX5_send_24 : decode cX5_send 24 = .ok (.aload_n 0, 1) := by decide +kernel
theorem dX5_send_25 : decode cX5_send 25 = .ok (.iconst 2, 1) := by decide +kernel
theorem dX5_send_26 : decode cX5_send 26 = .ok (.invokevirtual 87, 3) := by decide +kernel
theorem dX5_send_29 : decode cX5_send 29 = .ok (.ireturn, 1) := by decide +kernel
theorem dX5_send_30 : decode cX5_send 30 = .ok (.aload_n 0, 1) := by decide +kernel
theorem dX5_send_31 : decode cX5_send 31 = .ok (.iload_n 1, 1) := by decide +kernel
theorem dX5_send_32 : decode cX5_send 32 = .ok (.aload_n 0, 1) := by decide +kernel
theorem dX5_send_33 : decode cX5_send 33 = .ok (.getfield 13, 3) := by decide +kernel
theorem dX5_send_36 : decode cX5_send 36 = .ok (.iload_n 2, 1) := by decide +kernel
theorem dX5_send_37 : decode cX5_send 37 = .ok (.iaload, 1) := by decide +kernel
theorem dX5_send_38 : decode cX5_send 38 = .ok (.aload_n 0, 1) := by decide +kernel
theorem dX5_send_39 : decode cX5_send 39 = .ok (.getfield 16, 3) := by decide +kernel
theorem dX5_send_42 : decode cX5_send 42 = .ok (.iload_n 2, 1) := by decide +kernel
theorem dX5_send_43 : decode cX5_send 43 = .ok (.iaload, 1) := by decide +kernel
theorem dX5_send_44 : decode cX5_send 44 = .ok (.invokevirtual 137, 3) := by decide +kernel
theorem dX5_send_47 : decode cX5_send 47 = .ok (.aload_n 0, 1) := by decide +kernel
theorem dX5_send_48 : decode cX5_send 48 = .ok (.iload_n 1, 1) := by decide +kernel
theorem dX5_send_49 : decode cX5_send 49 = .ok (.aload_n 0, 1) := by decide +kernel
theorem dX5_send_50 : decode cX5_send 50 = .ok (.getfield 19, 3) := by decide +kernel
theorem dX5_send_53 : decode cX5_send 53 = .ok (.iload_n 2, 1) := by decide +kernel
theorem dX5_send_54 : decode cX5_send 54 = .ok (.iaload, 1) := by decide +kernel
theorem dX5_send_55 : decode cX5_send 55 = .ok (.aload_n 0, 1) := by decide +kernel
theorem dX5_send_56 : decode cX5_send 56 = .ok (.getfield 22, 3) := by decide +kernel
theorem dX5_send_59 : decode cX5_send 59 = .ok (.iload_n 2, 1) := by decide +kernel
theorem dX5_send_60 : decode cX5_send 60 = .ok (.iaload, 1) := by decide +kernel
theorem dX5_send_61 : decode cX5_send 61 = .ok (.invokevirtual 137, 3) := by decide +kernel
theorem dX5_send_64 : decode cX5_send 64 = .ok (.if_icmp .gt 7, 3) := by decide +kernel
theorem dX5_send_67 : decode cX5_send 67 = .ok (.iconst 1, 1) := by decide +kernel
theorem dX5_send_68 : decode cX5_send 68 = .ok (.goto 4, 3) := by decide +kernel
theorem dX5_send_71 : decode cX5_send 71 = .ok (.iconst 0, 1) := by decide +kernel
theorem dX5_send_72 : decode cX5_send 72 = .ok (.istore_n 3, 1) := by decide +kernel
theorem dX5_send_73 : decode cX5_send 73 = .ok (.aload_n 0, 1) := by decide +kernel
theorem dX5_send_74 : decode cX5_send 74 = .ok (.iload_n 1, 1) := by decide +kernel
theorem dX5_send_75 : decode cX5_send 75 = .ok (.iload_n 3, 1) := by decide +kernel
theorem dX5_send_76 : decode cX5_send 76 = .ok (.ifCond .eq 12, 3) := by decide +kernel
theorem dX5_send_79 : decode cX5_send 79 = .ok (.aload_n 0, 1) := by decide +kernel
theorem dX5_send_80 : decode cX5_send 80 = .ok (.getfield 13, 3) := by decide +kernel
theorem dX5_send_83 : decode cX5_send 83 = .ok (.iload_n 2, 1) := by decide +kernel
theorem dX5_send_84 : decode cX5_send 84 = .ok (.iaload, 1) := by decide +kernel
theorem dX5_send_85 : decode cX5_send 85 = .ok (.goto 9, 3) := by decide +kernel
theorem dX5_send_88 : decode cX5_send 88 = .ok (.aload_n 0, 1) := by decide +kernel
theorem dX5_send_89 : decode cX5_send 89 = .ok (.getfield 19, 3) := by decide +kernel
theorem dX5_send_92 : decode cX5_send 92 = .ok (.iload_n 2, 1) := by decide +kernel
theorem dX5_send_93 : decode cX5_send 93 = .ok (.iaload, 1) := by decide +kernel
theorem dX5_send_94 : decode cX5_send 94 = .ok (.iload_n 3, 1) := by decide +kernel
theorem dX5_send_95 : decode cX5_send 95 = .ok (.ifCond .eq 12, 3) := by decide +kernel
theorem dX5_send_98 : decode cX5_send 98 = .ok (.aload_n 0, 1) := by decide +kernel
theorem dX5_send_99 : decode cX5_send 99 = .ok (.getfield 16, 3) := by decide +kernel
theorem dX5_send_102 : decode cX5_send 102 = .ok (.iload_n 2, 1) := by decide +kernel
theorem dX5_send_103 : decode cX5_send 103 = .ok (.iaload, 1) := by decide +kernel
theorem dX5_send_104 : decode cX5_send 104 = .ok (.goto 9, 3) := by decide +kernel
theorem dX5_send_107 : decode cX5_send 107 = .ok (.aload_n 0, 1) := by decide +kernel
theorem dX5_send_108 : decode cX5_send 108 = .ok (.getfield 22, 3) := by decide +kernel
theorem dX5_send_111 : decode cX5_send 111 = .ok (.iload_n 2, 1) := by decide +kernel
theorem dX5_send_112 : decode cX5_send 112 = .ok (.iaload, 1) := by decide +kernel
theorem dX5_send_113 : decode cX5_send 113 = .ok (.invokevirtual 143, 3) := by decide +kernel
theorem dX5_send_116 : decode cX5_send 116 = .ok (.ireturn, 1) := by decide +kernel
set_option maxRecDepth 20000 in
theorem ggX5_carAt_X5_isCar : GoodIn wsX5_carAt wsX5_isCar := goodIn_r _ [6] (by decide +kernel) (by decide +kernel)
set_option maxRecDepth 20000 in
theorem gX5_carAt_X5_isCar : GoodIn wsX5_carAt (va_wsS RX5 140 yX5_isCar wsX5_isCar) := goodIn_app (goodIn_of _ (by decide +kernel)) ggX5_carAt_X5_isCar
set_option maxRecDepth 20000 in
theorem ggX5_carAt_X5_asks : GoodIn wsX5_carAt wsX5_asks := goodIn_r _ [10, 11, 12, 13, 14, 15, 16, 17, 18, 19, 20, 21, 22, 23, 24, 25, 26, 27, 28, 29, 30, 31] (by decide +kernel) (by decide +kernel)
set_option maxRecDepth 20000 in
theorem gX5_carAt_X5_asks : GoodIn wsX5_carAt (wsV RX5 83 RX5 yX5_asks wsX5_asks) := goodIn_app (goodIn_of _ (by decide +kernel)) ggX5_carAt_X5_asks
theorem dX5_carAt_0 : decode cX5_carAt 0 = .ok (.aload_n 0, 1) := by decide +kernel
theorem dX5_carAt_1 : decode cX5_carAt 1 = .ok (.iload_n 1, 1) := by decide +kernel
theorem dX5_carAt_2 : decode cX5_carAt 2 = .ok (.invokestatic 140, 3) := by decide +kernel
theorem dX5_carAt_5 : decode cX5_carAt 5 = .ok (.invokevirtual 83, 3) := by decide +kernel
theorem dX5_carAt_8 : decode cX5_carAt 8 = .ok (.ifCond .eq 22, 3) := by decide +kernel
theorem dX5_carAt_11 : decode cX5_carAt 11 = .ok (.bipush 100, 2) := by decide +kernel
theorem dX5_carAt_13 : decode cX5_carAt 13 = .ok (.aload_n 0, 1) := by decide +kernel
theorem dX5_carAt_14 : decode cX5_carAt 14 = .ok (.getfield 49, 3) := by decide +kernel
theorem dX5_carAt_17 : decode cX5_carAt 17 = .ok (.iload_n 1, 1) := by decide +kernel
theorem dX5_carAt_18 : decode cX5_carAt 18 = .ok (.iaload, 1) := by decide +kernel
theorem dX5_carAt_19 : decode cX5_carAt 19 = .ok (.imul, 1) := by decide +kernel
theorem dX5_carAt_20 : decode cX5_carAt 20 = .ok (.aload_n 0, 1) := by decide +kernel
theorem dX5_carAt_21 : decode cX5_carAt 21 = .ok (.getfield 52, 3) := by decide +kernel
theorem dX5_carAt_24 : decode cX5_carAt 24 = .ok (.iload_n 1, 1) := by decide +kernel
theorem dX5_carAt_25 : decode cX5_carAt 25 = .ok (.iaload, 1) := by decide +kernel
theorem dX5_carAt_26 : decode cX5_carAt 26 = .ok (.iadd, 1) := by decide +kernel
theorem dX5_carAt_27 : decode cX5_carAt 27 = .ok (.goto 4, 3) := by decide +kernel
theorem dX5_carAt_30 : decode cX5_carAt 30 = .ok (.iconst 0, 1) := by decide +kernel
theorem dX5_carAt_31 : decode cX5_carAt 31 = .ok (.ireturn, 1) := by decide +kernel
