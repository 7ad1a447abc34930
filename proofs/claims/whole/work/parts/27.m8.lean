theorem dX5_agree_0 : decode cX5_agree 0 = .ok (.iconst 0, 1) := by decide +kernel
theorem dX5_agree_1 : decode cX5_agree 1 = .ok (.istore_n 3, 1) := by decide +kernel
theorem dX5_agree_2 : decode cX5_agree 2 = .ok (.iconst 0, 1) := by decide +kernel
theorem dX5_agree_3 : decode cX5_agree 3 = .ok (.istore 4, 2) := by decide +kernel
theorem dX5_agree_5 : decode cX5_agree 5 = .ok (.iload 4, 2) := by decide +kernel
theorem dX5_agree_7 : decode cX5_agree 7 = .ok (.aload_n 0, 1) := by decide +kernel
theorem dX5_agree_8 : decode cX5_agree 8 = .ok (.getfield 55, 3) := by decide +kernel
theorem dX5_agree_11 : decode cX5_agree 11 = .ok (.iload_n 1, 1) := by decide +kernel
theorem dX5_agree_12 : decode cX5_agree 12 = .ok (.iaload, 1) := by decide +kernel
theorem dX5_agree_13 : decode cX5_agree 13 = .ok (.aload_n 0, 1) := by decide +kernel
theorem dX5_agree_14 : decode cX5_agree 14 = .ok (.getfield 55, 3) := by decide +kernel
theorem dX5_agree_17 : decode cX5_agree 17 = .ok (.iload_n 1, 1) := by decide +kernel
theorem dX5_agree_18 : decode cX5_agree 18 = .ok (.iaload, 1) := by decide +kernel
theorem dX5_agree_19 : decode cX5_agree 19 = .ok (.imul, 1) := by decide +kernel
theorem dX5_agree_20 : decode cX5_agree 20 = .ok (.if_icmp .ge 123, 3) := by decide +kernel
theorem dX5_agree_23 : decode cX5_agree 23 = .ok (.aload_n 0, 1) := by decide +kernel
theorem dX5_agree_24 : decode cX5_agree 24 = .ok (.getfield 58, 3) := by decide +kernel
theorem dX5_agree_27 : decode cX5_agree 27 = .ok (.bipush 9, 2) := by decide +kernel
theorem dX5_agree_29 : decode cX5_agree 29 = .ok (.iload_n 1, 1) := by decide +kernel
theorem dX5_agree_30 : decode cX5_agree 30 = .ok (.imul, 1) := by decide +kernel
theorem dX5_agree_31 : decode cX5_agree 31 = .ok (.iload 4, 2) := by decide +kernel
theorem dX5_agree_33 : decode cX5_agree 33 = .ok (.aload_n 0, 1) := by decide +kernel
theorem dX5_agree_34 : decode cX5_agree 34 = .ok (.getfield 55, 3) := by decide +kernel
theorem dX5_agree_37 : decode cX5_agree 37 = .ok (.iload_n 1, 1) := by decide +kernel
theorem dX5_agree_38 : decode cX5_agree 38 = .ok (.iaload, 1) := by decide +kernel
theorem dX5_agree_39 : decode cX5_agree 39 = .ok (.idiv, 1) := by decide +kernel
theorem dX5_agree_40 : decode cX5_agree 40 = .ok (.iadd, 1) := by decide +kernel
theorem dX5_agree_41 : decode cX5_agree 41 = .ok (.iaload, 1) := by decide +kernel
theorem dX5_agree_42 : decode cX5_agree 42 = .ok (.istore 5, 2) := by decide +kernel
theorem dX5_agree_44 : decode cX5_agree 44 = .ok (.aload_n 0, 1) := by decide +kernel
theorem dX5_agree_45 : decode cX5_agree 45 = .ok (.getfield 58, 3) := by decide +kernel
theorem dX5_agree_48 : decode cX5_agree 48 = .ok (.bipush 9, 2) := by decide +kernel
theorem dX5_agree_50 : decode cX5_agree 50 = .ok (.iload_n 1, 1) := by decide +kernel
theorem dX5_agree_51 : decode cX5_agree 51 = .ok (.imul, 1) := by decide +kernel
theorem dX5_agree_52 : decode cX5_agree 52 = .ok (.iload 4, 2) := by decide +kernel
theorem dX5_agree_54 : decode cX5_agree 54 = .ok (.aload_n 0, 1) := by decide +kernel
theorem dX5_agree_55 : decode cX5_agree 55 = .ok (.getfield 55, 3) := by decide +kernel
theorem dX5_agree_58 : decode cX5_agree 58 = .ok (.iload_n 1, 1) := by decide +kernel
theorem dX5_agree_59 : decode cX5_agree 59 = .ok (.iaload, 1) := by decide +kernel
theorem dX5_agree_60 : decode cX5_agree 60 = .ok (.irem, 1) := by decide +kernel
theorem dX5_agree_61 : decode cX5_agree 61 = .ok (.iadd, 1) := by decide +kernel
theorem dX5_agree_62 : decode cX5_agree 62 = .ok (.iaload, 1) := by decide +kernel
theorem dX5_agree_63 : decode cX5_agree 63 = .ok (.istore 6, 2) := by decide +kernel
theorem dX5_agree_65 : decode cX5_agree 65 = .ok (.iload 5, 2) := by decide +kernel
theorem dX5_agree_67 : decode cX5_agree 67 = .ok (.iconst 4, 1) := by decide +kernel
theorem dX5_agree_68 : decode cX5_agree 68 = .ok (.idiv, 1) := by decide +kernel
theorem dX5_agree_69 : decode cX5_agree 69 = .ok (.iconst 4, 1) := by decide +kernel
theorem dX5_agree_70 : decode cX5_agree 70 = .ok (.irem, 1) := by decide +kernel
theorem dX5_agree_71 : decode cX5_agree 71 = .ok (.iload_n 2, 1) := by decide +kernel
theorem dX5_agree_72 : decode cX5_agree 72 = .ok (.if_icmp .ne 28, 3) := by decide +kernel
theorem dX5_agree_75 : decode cX5_agree 75 = .ok (.iload 6, 2) := by decide +kernel
theorem dX5_agree_77 : decode cX5_agree 77 = .ok (.iconst 4, 1) := by decide +kernel
theorem dX5_agree_78 : decode cX5_agree 78 = .ok (.idiv, 1) := by decide +kernel
theorem dX5_agree_79 : decode cX5_agree 79 = .ok (.iconst 4, 1) := by decide +kernel
theorem dX5_agree_80 : decode cX5_agree 80 = .ok (.irem, 1) := by decide +kernel
theorem dX5_agree_81 : decode cX5_agree 81 = .ok (.iload_n 2, 1) := by decide +kernel
theorem dX5_agree_82 : decode cX5_agree 82 = .ok (.if_icmp .ne 18, 3) := by decide +kernel
theorem dX5_agree_85 : decode cX5_agree 85 = .ok (.iload 5, 2) := by decide +kernel
theorem dX5_agree_87 : decode cX5_agree 87 = .ok (.iconst 4, 1) := by decide +kernel
theorem dX5_agree_88 : decode cX5_agree 88 = .ok (.irem, 1) := by decide +kernel
theorem dX5_agree_89 : decode cX5_agree 89 = .ok (.iload 6, 2) := by decide +kernel
theorem dX5_agree_91 : decode cX5_agree 91 = .ok (.iconst 4, 1) := by decide +kernel
theorem dX5_agree_92 : decode cX5_agree 92 = .ok (.irem, 1) := by decide +kernel
theorem dX5_agree_93 : decode cX5_agree 93 = .ok (.if_icmp .eq 7, 3) := by decide +kernel
theorem dX5_agree_96 : decode cX5_agree 96 = .ok (.iconst 1, 1) := by decide +kernel
theorem dX5_agree_97 : decode cX5_agree 97 = .ok (.goto 4, 3) := by decide +kernel
theorem dX5_agree_100 : decode cX5_agree 100 = .ok (.iconst 0, 1) := by decide +kernel
theorem dX5_agree_101 : decode cX5_agree 101 = .ok (.istore 7, 2) := by decide +kernel
theorem dX5_agree_103 : decode cX5_agree 103 = .ok (.iload_n 3, 1) := by decide +kernel
theorem dX5_agree_104 : decode cX5_agree 104 = .ok (.ifCond .ne 27, 3) := by decide +kernel
theorem dX5_agree_107 : decode cX5_agree 107 = .ok (.iload 7, 2) := by decide +kernel
theorem dX5_agree_109 : decode cX5_agree 109 = .ok (.ifCond .eq 26, 3) := by decide +kernel
theorem dX5_agree_112 : decode cX5_agree 112 = .ok (.iload 5, 2) := by decide +kernel
theorem dX5_agree_114 : decode cX5_agree 114 = .ok (.bipush 16, 2) := by decide +kernel
theorem dX5_agree_116 : decode cX5_agree 116 = .ok (.idiv, 1) := by decide +kernel
theorem dX5_agree_117 : decode cX5_agree 117 = .ok (.iload 6, 2) := by decide +kernel
theorem dX5_agree_119 : decode cX5_agree 119 = .ok (.bipush 16, 2) := by decide +kernel
theorem dX5_agree_121 : decode cX5_agree 121 = .ok (.idiv, 1) := by decide +kernel
theorem dX5_agree_122 : decode cX5_agree 122 = .ok (.imul, 1) := by decide +kernel
theorem dX5_agree_123 : decode cX5_agree 123 = .ok (.bipush 100, 2) := by decide +kernel
theorem dX5_agree_125 : decode cX5_agree 125 = .ok (.idiv, 1) := by decide +kernel
theorem dX5_agree_126 : decode cX5_agree 126 = .ok (.bipush 20, 2) := by decide +kernel
theorem dX5_agree_128 : decode cX5_agree 128 = .ok (.if_icmp .gt 7, 3) := by decide +kernel
theorem dX5_agree_131 : decode cX5_agree 131 = .ok (.iconst 1, 1) := by decide +kernel
theorem dX5_agree_132 : decode cX5_agree 132 = .ok (.goto 4, 3) := by decide +kernel
theorem dX5_agree_135 : decode cX5_agree 135 = .ok (.iconst 0, 1) := by decide +kernel
theorem dX5_agree_136 : decode cX5_agree 136 = .ok (.istore_n 3, 1) := by decide +kernel
theorem dX5_agree_137 : decode cX5_agree 137 = .ok (.iinc 4 1, 3) := by decide +kernel
theorem dX5_agree_140 : decode cX5_agree 140 = .ok (.goto (-135), 3) := by decide +kernel
theorem dX5_agree_143 : decode cX5_agree 143 = .ok (.iload_n 3, 1) := by decide +kernel
theorem dX5_agree_144 : decode cX5_agree 144 = .ok (.ireturn, 1) := by decide +kernel
theorem dX5_clears_0 : decode cX5_clears 0 = .ok (.iconst 0, 1) := by decide +kernel
theorem dX5_clears_1 : decode cX5_clears 1 = .ok (.istore 5, 2) := by decide +kernel
theorem dX5_clears_3 : decode cX5_clears 3 = .ok (.iconst 0, 1) := by decide +kernel
theorem dX5_clears_4 : decode cX5_clears 4 = .ok (.istore 6, 2) := by decide +kernel
theorem dX5_clears_6 : decode cX5_clears 6 = .ok (.iload 6, 2) := by decide +kernel
theorem dX5_clears_8 : decode cX5_clears 8 = .ok (.aload_n 0, 1) := by decide +kernel
theorem dX5_clears_9 : decode cX5_clears 9 = .ok (.getfield 55, 3) := by decide +kernel
theorem dX5_clears_12 : decode cX5_clears 12 = .ok (.iload_n 1, 1) := by decide +kernel
theorem dX5_clears_13 : decode cX5_clears 13 = .ok (.iaload, 1) := by decide +kernel
theorem dX5_clears_14 : decode cX5_clears 14 = .ok (.if_icmp .ge 100, 3) := by decide +kernel
theorem dX5_clears_17 : decode cX5_clears 17 = .ok (.aload_n 0, 1) := by decide +kernel
theorem dX5_clears_18 : decode cX5_clears 18 = .ok (.getfield 58, 3) := by decide +kernel
theorem dX5_clears_21 : decode cX5_clears 21 = .ok (.bipush 9, 2) := by decide +kernel
theorem dX5_clears_23 : decode cX5_clears 23 = .ok (.iload_n 1, 1) := by decide +kernel
theorem dX5_clears_24 : decode cX5_clears 24 = .ok (.imul, 1) := by decide +kernel
theorem dX5_clears_25 : decode cX5_clears 25 = .ok (.iload 6, 2) := by decide +kernel
theorem dX5_clears_27 : decode cX5_clears 27 = .ok (.iadd, 1) := by decide +kernel
theorem dX5_clears_28 : decode cX5_clears 28 = .ok (.iaload, 1) := by decide +kernel
theorem dX5_clears_29 : decode cX5_clears 29 = .ok (.istore 7, 2) := by decide +kernel
theorem dX5_clears_31 : decode cX5_clears 31 = .ok (.iload 7, 2) := by decide +kernel
theorem dX5_clears_33 : decode cX5_clears 33 = .ok (.iconst 4, 1) := by decide +kernel
theorem dX5_clears_34 : decode cX5_clears 34 = .ok (.idiv, 1) := by decide +kernel
theorem dX5_clears_35 : decode cX5_clears 35 = .ok (.iconst 4, 1) := by decide +kernel
theorem dX5_clears_36 : decode cX5_clears 36 = .ok (.irem, 1) := by decide +kernel
theorem dX5_clears_37 : decode cX5_clears 37 = .ok (.iload_n 3, 1) := by decide +kernel
theorem dX5_clears_38 : decode cX5_clears 38 = .ok (.if_icmp .ne 7, 3) := by decide +kernel
theorem dX5_clears_41 : decode cX5_clears 41 = .ok (.iconst 1, 1) := by decide +kernel
theorem dX5_clears_42 : decode cX5_clears 42 = .ok (.goto 4, 3) := by decide +kernel
theorem dX5_clears_45 : decode cX5_clears 45 = .ok (.iconst 0, 1) := by decide +kernel
theorem dX5_clears_46 : decode cX5_clears 46 = .ok (.istore 8, 2) := by decide +kernel
theorem dX5_clears_48 : decode cX5_clears 48 = .ok (.iload 8, 2) := by decide +kernel
theorem dX5_clears_50 : decode cX5_clears 50 = .ok (.ifCond .eq 19, 3) := by decide +kernel
theorem dX5_clears_53 : decode cX5_clears 53 = .ok (.iload 7, 2) := by decide +kernel
theorem dX5_clears_55 : decode cX5_clears 55 = .ok (.iconst 4, 1) := by decide +kernel
theorem dX5_clears_56 : decode cX5_clears 56 = .ok (.irem, 1) := by decide +kernel
theorem dX5_clears_57 : decode cX5_clears 57 = .ok (.iload_n 2, 1) := by decide +kernel
theorem dX5_clears_58 : decode cX5_clears 58 = .ok (.if_icmp .ne 7, 3) := by decide +kernel
theorem dX5_clears_61 : decode cX5_clears 61 = .ok (.iconst 1, 1) := by decide +kernel
theorem dX5_clears_62 : decode cX5_clears 62 = .ok (.goto 22, 3) := by decide +kernel
theorem dX5_clears_65 : decode cX5_clears 65 = .ok (.iconst 0, 1) := by decide +kernel
theorem dX5_clears_66 : decode cX5_clears 66 = .ok (.goto 18, 3) := by decide +kernel
theorem dX5_clears_69 : decode cX5_clears 69 = .ok (.iload 7, 2) := by decide +kernel
theorem dX5_clears_71 : decode cX5_clears 71 = .ok (.bipush 16, 2) := by decide +kernel
theorem dX5_clears_73 : decode cX5_clears 73 = .ok (.idiv, 1) := by decide +kernel
theorem dX5_clears_74 : decode cX5_clears 74 = .ok (.iload 4, 2) := by decide +kernel
theorem dX5_clears_76 : decode cX5_clears 76 = .ok (.if_icmp .le 7, 3) := by decide +kernel
theorem dX5_clears_79 : decode cX5_clears 79 = .ok (.iconst 1, 1) := by decide +kernel
theorem dX5_clears_80 : decode cX5_clears 80 = .ok (.goto 4, 3) := by decide +kernel
theorem dX5_clears_83 : decode cX5_clears 83 = .ok (.iconst 0, 1) := by decide +kernel
theorem dX5_clears_84 : decode cX5_clears 84 = .ok (.istore 9, 2) := by decide +kernel
theorem dX5_clears_86 : decode cX5_clears 86 = .ok (.iload 9, 2) := by decide +kernel
theorem dX5_clears_88 : decode cX5_clears 88 = .ok (.ifCond .ne 20, 3) := by decide +kernel
theorem dX5_clears_91 : decode cX5_clears 91 = .ok (.aload_n 0, 1) := by decide +kernel
theorem dX5_clears_92 : decode cX5_clears 92 = .ok (.getfield 58, 3) := by decide +kernel
theorem dX5_clears_95 : decode cX5_clears 95 = .ok (.bipush 9, 2) := by decide +kernel
theorem dX5_clears_97 : decode cX5_clears 97 = .ok (.iload_n 1, 1) := by decide +kernel
theorem dX5_clears_98 : decode cX5_clears 98 = .ok (.imul, 1) := by decide +kernel
theorem dX5_clears_99 : decode cX5_clears 99 = .ok (.iload 5, 2) := by decide +kernel
theorem dX5_clears_101 : decode cX5_clears 101 = .ok (.iadd, 1) := by decide +kernel
theorem dX5_clears_102 : decode cX5_clears 102 = .ok (.iload 7, 2) := by decide +kernel
theorem dX5_clears_104 : decode cX5_clears 104 = .ok (.iastore, 1) := by decide +kernel
theorem dX5_clears_105 : decode cX5_clears 105 = .ok (.iinc 5 1, 3) := by decide +kernel
theorem dX5_clears_108 : decode cX5_clears 108 = .ok (.iinc 6 1, 3) := by decide +kernel
theorem dX5_clears_111 : decode cX5_clears 111 = .ok (.goto (-105), 3) := by decide +kernel
theorem dX5_clears_114 : decode cX5_clears 114 = .ok (.aload_n 0, 1) := by decide +kernel
theorem dX5_clears_115 : decode cX5_clears 115 = .ok (.getfield 55, 3) := by decide +kernel
theorem dX5_clears_118 : decode cX5_clears 118 = .ok (.iload_n 1, 1) := by decide +kernel
theorem dX5_clears_119 : decode cX5_clears 119 = .ok (.iload 5, 2) := by decide +kernel
theorem dX5_clears_121 : decode cX5_clears 121 = .ok (.iastore, 1) := by decide +kernel
theorem dX5_clears_122 : decode cX5_clears 122 = .ok (.return_, 1) := by decide +kernel
theorem dX5_dearBy_0 : decode cX5_dearBy 0 = .ok (.iconst 0, 1) := by decide +kernel
theorem dX5_dearBy_1 : decode cX5_dearBy 1 = .ok (.istore_n 2, 1) := by decide +kernel
theorem dX5_dearBy_2 : decode cX5_dearBy 2 = .ok (.iconst 0, 1) := by decide +kernel
theorem dX5_dearBy_3 : decode cX5_dearBy 3 = .ok (.istore_n 3, 1) := by decide +kernel
theorem dX5_dearBy_4 : decode cX5_dearBy 4 = .ok (.iload_n 3, 1) := by decide +kernel
theorem dX5_dearBy_5 : decode cX5_dearBy 5 = .ok (.aload_n 0, 1) := by decide +kernel
theorem dX5_dearBy_6 : decode cX5_dearBy 6 = .ok (.getfield 55, 3) := by decide +kernel
theorem dX5_dearBy_9 : decode cX5_dearBy 9 = .ok (.iload_n 1, 1) := by decide +kernel
theorem dX5_dearBy_10 : decode cX5_dearBy 10 = .ok (.iaload, 1) := by decide +kernel
theorem dX5_dearBy_11 : decode cX5_dearBy 11 = .ok (.if_icmp .ge 63, 3) := by decide +kernel
theorem dX5_dearBy_14 : decode cX5_dearBy 14 = .ok (.aload_n 0, 1) := by decide +kernel
theorem dX5_dearBy_15 : decode cX5_dearBy 15 = .ok (.getfield 58, 3) := by decide +kernel
theorem dX5_dearBy_18 : decode cX5_dearBy 18 = .ok (.bipush 9, 2) := by decide +kernel
theorem dX5_dearBy_20 : decode cX5_dearBy 20 = .ok (.iload_n 1, 1) := by decide +kernel
theorem dX5_dearBy_21 : decode cX5_dearBy 21 = .ok (.imul, 1) := by decide +kernel
theorem dX5_dearBy_22 : decode cX5_dearBy 22 = .ok (.iload_n 3, 1) := by decide +kernel
theorem dX5_dearBy_23 : decode cX5_dearBy 23 = .ok (.iadd, 1) := by decide +kernel
theorem dX5_dearBy_24 : decode cX5_dearBy 24 = .ok (.iaload, 1) := by decide +kernel
theorem dX5_dearBy_25 : decode cX5_dearBy 25 = .ok (.istore 4, 2) := by decide +kernel
theorem dX5_dearBy_27 : decode cX5_dearBy 27 = .ok (.iload 4, 2) := by decide +kernel
theorem dX5_dearBy_29 : decode cX5_dearBy 29 = .ok (.iconst 4, 1) := by decide +kernel
theorem dX5_dearBy_30 : decode cX5_dearBy 30 = .ok (.idiv, 1) := by decide +kernel
theorem dX5_dearBy_31 : decode cX5_dearBy 31 = .ok (.iconst 4, 1) := by decide +kernel
theorem dX5_dearBy_32 : decode cX5_dearBy 32 = .ok (.irem, 1) := by decide +kernel
theorem dX5_dearBy_33 : decode cX5_dearBy 33 = .ok (.aload_n 0, 1) := by decide +kernel
theorem dX5_dearBy_34 : decode cX5_dearBy 34 = .ok (.iload_n 1, 1) := by decide +kernel
theorem dX5_dearBy_35 : decode cX5_dearBy 35 = .ok (.invokevirtual 101, 3) := by decide +kernel
theorem dX5_dearBy_38 : decode cX5_dearBy 38 = .ok (.if_icmp .ne 7, 3) := by decide +kernel
theorem dX5_dearBy_41 : decode cX5_dearBy 41 = .ok (.iconst 0, 1) := by decide +kernel
theorem dX5_dearBy_42 : decode cX5_dearBy 42 = .ok (.goto 11, 3) := by decide +kernel
theorem dX5_dearBy_45 : decode cX5_dearBy 45 = .ok (.bipush 100, 2) := by decide +kernel
theorem dX5_dearBy_47 : decode cX5_dearBy 47 = .ok (.iload 4, 2) := by decide +kernel
theorem dX5_dearBy_49 : decode cX5_dearBy 49 = .ok (.bipush 16, 2) := by decide +kernel
theorem dX5_dearBy_51 : decode cX5_dearBy 51 = .ok (.idiv, 1) := by decide +kernel
theorem dX5_dearBy_52 : decode cX5_dearBy 52 = .ok (.isub, 1) := by decide +kernel
theorem dX5_dearBy_53 : decode cX5_dearBy 53 = .ok (.istore 5, 2) := by decide +kernel
theorem dX5_dearBy_55 : decode cX5_dearBy 55 = .ok (.iload 5, 2) := by decide +kernel
theorem dX5_dearBy_57 : decode cX5_dearBy 57 = .ok (.iload_n 2, 1) := by decide +kernel
theorem dX5_dearBy_58 : decode cX5_dearBy 58 = .ok (.if_icmp .le 8, 3) := by decide +kernel
theorem dX5_dearBy_61 : decode cX5_dearBy 61 = .ok (.iload 5, 2) := by decide +kernel
theorem dX5_dearBy_63 : decode cX5_dearBy 63 = .ok (.goto 4, 3) := by decide +kernel
theorem dX5_dearBy_66 : decode cX5_dearBy 66 = .ok (.iload_n 2, 1) := by decide +kernel
theorem dX5_dearBy_67 : decode cX5_dearBy 67 = .ok (.istore_n 2, 1) := by decide +kernel
theorem dX5_dearBy_68 : decode cX5_dearBy 68 = .ok (.iinc 3 1, 3) := by decide +kernel
theorem dX5_dearBy_71 : decode cX5_dearBy 71 = .ok (.goto (-67), 3) := by decide +kernel
theorem dX5_dearBy_74 : decode cX5_dearBy 74 = .ok (.iload_n 2, 1) := by decide +kernel
theorem dX5_dearBy_75 : decode cX5_dearBy 75 = .ok (.aload_n 0, 1) := by decide +kernel
theorem dX5_dearBy_76 : decode cX5_dearBy 76 = .ok (.iload_n 1, 1) := by decide +kernel
theorem dX5_dearBy_77 : decode cX5_dearBy 77 = .ok (.invokevirtual 98, 3) := by decide +kernel
theorem dX5_dearBy_80 : decode cX5_dearBy 80 = .ok (.iconst 1, 1) := by decide +kernel
theorem dX5_dearBy_81 : decode cX5_dearBy 81 = .ok (.iadd, 1) := by decide +kernel
theorem dX5_dearBy_82 : decode cX5_dearBy 82 = .ok (.imul, 1) := by decide +kernel
theorem dX5_dearBy_83 : decode cX5_dearBy 83 = .ok (.ireturn, 1) := by decide +kernel
theorem ke_X5_clears : wl_V RX5 yX5_clears cX5_clears 10 none 4 := ⟨wd_c_X5_clears, wd_i_X5_clears, wd_s_X5_clears, wd_n_X5, by decide, by decide +kernel⟩
set_option maxHeartbeats 4000000 in
set_option maxRecDepth 100000 in
theorem m_X5_clears (l : Launch) (D : va_G) (cI : ClassId) (o : Nat) (a : Nat → Nat) (mm : q_Mem) (hMD : mo_D o a) (w c1 d q n : Nat) (f g h : Nat → Nat) (hc1 : c1 < 3) (hd : d < 3) (hq : q < 100) (hw : w < 40) (hS9 : sn_L mm w n f g h) : mo_Cv l yX5_clears cX5_clears 10 none 0 0 D cI o a mm [.int (nI w), .int (nI c1), .int (nI d), .int (nI q)] (fun m1 => ∃ (kp : Nat) (e1 : Nat → Nat) (m2 : q_Mem), sn_K mm m2 w c1 d q f g h n n kp e1 ∧ m1 = up2 m2 17 w (nI kp)) := by
  refine mo_ofQ (by decide) (Nat.le_of_ble_eq_true rfl) ?_
  intro p e s m args below meth c hx hb hr hF hlk hM hK hS ls hl
  have hA : ∀ q, mo_R o a q → mo_R o a q := fun _ h => h
  have hl : lv_has ls 10 [(0, .ref o), (1, .int (nI w)), (2, .int (nI c1)), (3, .int (nI d)), (4, .int (nI q))] := hl
  have hf : (0 : Nat) ≤ 0 ∧ (0 : Nat) ≤ 0 := ⟨Nat.le_refl 0, Nat.le_refl 0⟩
  obtain ⟨hn9, hn, hen⟩ := hS9
  refine lv_iconst (v := 0) hx hb dX5_clears_0 (by decide) ?_
  refine lv_istore (lv' := [(5, .int 0), (0, .ref o), (1, .int (nI w)), (2, .int (nI c1)), (3, .int (nI d)), (4, .int (nI q))]) hx hb dX5_clears_1 hl (by decide) rfl (fun ls hl => ?_)
  refine lv_iconst (v := 0) hx hb dX5_clears_3 (by decide) ?_
  refine lv_istore (lv' := [(6, .int 0), (5, .int 0), (0, .ref o), (1, .int (nI w)), (2, .int (nI c1)), (3, .int (nI d)), (4, .int (nI q))]) hx hb dX5_clears_4 hl (by decide) rfl (fun ls hl => ?_)
  refine bo_loop (σ := Nat × Nat × (Nat → Nat) × q_Mem) (μ := fun (qx : Nat × Nat × (Nat → Nat) × q_Mem) => match qx with | (i, kp, e1, m2) => n - i) (I := fun (qx : Nat × Nat × (Nat → Nat) × q_Mem) (H : Heap) (locs : List Loc) (ls : Array Slot) => match qx with | (i, kp, e1, m2) => mo_H D cI o a m2 H ∧ va_S (mo_R o a) s.heap H locs ∧ lv_has ls 10 [(5, .int (nI kp)), (6, .int (nI i)), (0, .ref o), (1, .int (nI w)), (2, .int (nI c1)), (3, .int (nI d)), (4, .int (nI q))] ∧ (i ≤ n) ∧ (sn_K mm m2 w c1 d q f g h n i kp e1)) ((0, 0, fun _ => 0, mm)) ⟨hM, hS, lv_sub hl [1, 0, 2, 3, 4, 5, 6] rfl, Nat.zero_le _, sn_K0⟩ ?_
  intro x6 H locs ls hI6 ih6
  obtain ⟨i, kp, e1, m2⟩ := x6
  obtain ⟨hM, hS, hl, hi, hk⟩ := hI6
  have hkp := hk.1
  have hr17 : m2 17 w = nI n := by rw [hk.2.1 17 (by decide)]; exact hn
  refine lv_iload hx hb dX5_clears_6 (lv_at hl 1 rfl) ?_
  refine lv_aload_n hx hb dX5_clears_8 rfl (lv_at hl 2 rfl) ?_
  refine mo_get hF hK hM 17 (by decide) wd_f_X5_55 rfl dX5_clears_9 ?_
  refine lv_iload_n hx hb dX5_clears_12 rfl (lv_at hl 3 rfl) ?_
  refine mo_ald hF hK hM 17 w (by decide) rfl (by exact hw) dX5_clears_13 ?_
  refine bo_to (v := (nI n)) (hr17) ?_
  refine lv_icmp_ge (tgt := 114) hx hb dX5_clears_14 (by decide) (fun c1x => ?_) (fun c1x => ?_)
  · skip
    have hin : i = n := by have := (nI_leI (by omega) (by omega)).mp c1x; omega
    refine lv_aload_n hx hb dX5_clears_114 rfl (lv_at hl 2 rfl) ?_
    refine mo_get hF hK hM 17 (by decide) wd_f_X5_55 rfl dX5_clears_115 ?_
    refine lv_iload_n hx hb dX5_clears_118 rfl (lv_at hl 3 rfl) ?_
    refine lv_iload hx hb dX5_clears_119 (lv_at hl 0 rfl) ?_
    refine mo_ast (mm := m2) hF hK hM hMD hS hA 17 w (by decide) rfl (by exact hw) dX5_clears_121 (fun H locs hM hS => ?_)
    exact mo_vret hx hb hr hlk hK hM hS (by rw [hin] at hk; exact ⟨kp, e1, m2, hk, rfl⟩) dX5_clears_122
  · skip
    have hin : i < n := by have : ¬ n ≤ i := fun z => c1x ((nI_leI (by omega) (by omega)).mpr z); omega
    obtain ⟨hf3, hg3, hh1, hei⟩ := hen i hin
    refine lv_aload_n hx hb dX5_clears_17 rfl (lv_at hl 2 rfl) ?_
    refine mo_get hF hK hM 18 (by decide) wd_f_X5_58 rfl dX5_clears_18 ?_
    refine lv_bipush (v := 9) hx hb dX5_clears_21 (by decide) ?_
    refine lv_iload_n hx hb dX5_clears_23 rfl (lv_at hl 3 rfl) ?_
    refine lv_imul hx hb dX5_clears_24 ?_
    refine bo_to (v := (nI (9 * w))) (pk_mul 9 w) ?_
    refine lv_iload hx hb dX5_clears_25 (lv_at hl 1 rfl) ?_
    refine lv_iadd hx hb dX5_clears_27 ?_
    refine bo_to (v := (nI (9 * w + i))) (nI_add _ _) ?_
    refine mo_ald hF hK hM 18 (9 * w + i) (by decide) rfl (show 9 * w + i < 360 by omega) dX5_clears_28 ?_
    refine bo_to (v := (sp_S (f i) (g i) (h i))) ((sn_Krd hk).trans hei) ?_
    refine lv_istore (lv' := [(7, .int (sp_S (f i) (g i) (h i))), (5, .int (nI kp)), (6, .int (nI i)), (0, .ref o), (1, .int (nI w)), (2, .int (nI c1)), (3, .int (nI d)), (4, .int (nI q))]) hx hb dX5_clears_29 hl (by decide) rfl (fun ls hl => ?_)
    refine bo_cut (ls := ls) (tgt := 46) (E := if g i = d then 1 else 0) (rest := []) (fun vs evs => ?_) (fun J46 => ?_)
    · skip
      refine lv_istore (lv' := [(8, .int vs), (7, .int (sp_S (f i) (g i) (h i))), (5, .int (nI kp)), (6, .int (nI i)), (0, .ref o), (1, .int (nI w)), (2, .int (nI c1)), (3, .int (nI d)), (4, .int (nI q))]) hx hb dX5_clears_46 hl (by decide) rfl (fun ls hl => ?_)
      refine bo_cut (ls := ls) (tgt := 84) (E := if sn_goes c1 d q f g h i then 1 else 0) (rest := []) (fun vg evg => ?_) (fun J84 => ?_)
      · skip
        refine lv_istore (lv' := [(9, .int vg), (8, .int vs), (7, .int (sp_S (f i) (g i) (h i))), (5, .int (nI kp)), (6, .int (nI i)), (0, .ref o), (1, .int (nI w)), (2, .int (nI c1)), (3, .int (nI d)), (4, .int (nI q))]) hx hb dX5_clears_84 hl (by decide) rfl (fun ls hl => ?_)
        refine lv_iload hx hb dX5_clears_86 (lv_at hl 0 rfl) ?_
        refine bo_ne (tgt := 108) evg hx hb dX5_clears_88 (by decide) (fun c9 => ?_) (fun c9 => ?_)
        · skip
          refine lv_iinc (v := (nI (i + 1))) (lv' := [(6, .int (nI (i + 1))), (9, .int vg), (8, .int vs), (7, .int (sp_S (f i) (g i) (h i))), (5, .int (nI kp)), (0, .ref o), (1, .int (nI w)), (2, .int (nI c1)), (3, .int (nI d)), (4, .int (nI q))]) hx hb dX5_clears_108 hl (k := 4) rfl (nI_1 i) (by decide) rfl (fun ls hl => ?_)
          refine lv_goto (tgt := 6) hx hb dX5_clears_111 (by decide) ?_
          exact ih6 (i + 1, kp, e1, m2) _ _ _ (by show n - (i + 1) < n - i; omega) ⟨hM, hS, lv_sub hl [4, 0, 5, 6, 7, 8, 9] rfl, by omega, sn_Kgo hk c9⟩
        · skip
          refine lv_aload_n hx hb dX5_clears_91 rfl (lv_at hl 5 rfl) ?_
          refine mo_get hF hK hM 18 (by decide) wd_f_X5_58 rfl dX5_clears_92 ?_
          refine lv_bipush (v := 9) hx hb dX5_clears_95 (by decide) ?_
          refine lv_iload_n hx hb dX5_clears_97 rfl (lv_at hl 6 rfl) ?_
          refine lv_imul hx hb dX5_clears_98 ?_
          refine bo_to (v := (nI (9 * w))) (pk_mul 9 w) ?_
          refine lv_iload hx hb dX5_clears_99 (lv_at hl 3 rfl) ?_
          refine lv_iadd hx hb dX5_clears_101 ?_
          refine bo_to (v := (nI (9 * w + kp))) (nI_add _ _) ?_
          refine lv_iload hx hb dX5_clears_102 (lv_at hl 2 rfl) ?_
          refine mo_ast (mm := m2) hF hK hM hMD hS hA 18 (9 * w + kp) (by decide) rfl (show 9 * w + kp < 360 by omega) dX5_clears_104 (fun H locs hM hS => ?_)
          refine lv_iinc (v := (nI (kp + 1))) (lv' := [(5, .int (nI (kp + 1))), (9, .int vg), (8, .int vs), (7, .int (sp_S (f i) (g i) (h i))), (6, .int (nI i)), (0, .ref o), (1, .int (nI w)), (2, .int (nI c1)), (3, .int (nI d)), (4, .int (nI q))]) hx hb dX5_clears_105 hl (k := 3) rfl (nI_1 kp) (by decide) rfl (fun ls hl => ?_)
          refine lv_iinc (v := (nI (i + 1))) (lv' := [(6, .int (nI (i + 1))), (5, .int (nI (kp + 1))), (9, .int vg), (8, .int vs), (7, .int (sp_S (f i) (g i) (h i))), (0, .ref o), (1, .int (nI w)), (2, .int (nI c1)), (3, .int (nI d)), (4, .int (nI q))]) hx hb dX5_clears_108 hl (k := 4) rfl (nI_1 i) (by decide) rfl (fun ls hl => ?_)
          refine lv_goto (tgt := 6) hx hb dX5_clears_111 (by decide) ?_
          exact ih6 (i + 1, kp + 1, fun j => if j = kp then i else e1 j, (up2 m2 18 (9 * w + kp) (sp_S (f i) (g i) (h i)))) _ _ _ (by show n - (i + 1) < n - i; omega) ⟨hM, hS, lv_sub hl [1, 0, 5, 6, 7, 8, 9] rfl, by omega, by have z := sn_Kst hk c9; rw [hei] at z; exact z⟩
      · skip
        refine lv_iload hx hb dX5_clears_48 (lv_at hl 0 rfl) ?_
        refine bo_eq (tgt := 69) evs hx hb dX5_clears_50 (by decide) (fun c4 => ?_) (fun c4 => ?_)
        · skip
          refine lv_iload hx hb dX5_clears_69 (lv_at hl 1 rfl) ?_
          refine lv_bipush (v := 16) hx hb dX5_clears_71 (by decide) ?_
          refine lv_idiv hx hb dX5_clears_73 (by decide) ?_
          refine bo_to (v := (nI (h i))) (sS_q hf3 hg3 hh1) ?_
          refine lv_iload hx hb dX5_clears_74 (lv_at hl 8 rfl) ?_
          refine lv_icmp_le (tgt := 83) hx hb dX5_clears_76 (by decide) (fun c7 => ?_) (fun c7 => ?_)
          · skip
            have c8 : ¬ q < h i := fun z => (nI_nle2 z (by omega)) c7
            refine lv_iconst (v := 0) hx hb dX5_clears_83 (by decide) ?_
            exact J84 _ (by first | exact bo_p (sn_g1 c4 c6) | exact bo_n (sn_g2 c4 c6) | exact bo_p (sn_g3 c4 c8) | exact bo_n (sn_g4 c4 c8))
          · skip
            have c8 : q < h i := Nat.lt_of_not_le (fun z => c7 (nI_le z (by omega)))
            refine lv_iconst (v := 1) hx hb dX5_clears_79 (by decide) ?_
            refine lv_goto (tgt := 84) hx hb dX5_clears_80 (by decide) ?_
            exact J84 _ (by first | exact bo_p (sn_g1 c4 c6) | exact bo_n (sn_g2 c4 c6) | exact bo_p (sn_g3 c4 c8) | exact bo_n (sn_g4 c4 c8))
        · skip
          refine lv_iload hx hb dX5_clears_53 (lv_at hl 1 rfl) ?_
          refine lv_iconst (v := 4) hx hb dX5_clears_55 (by decide) ?_
          refine lv_irem hx hb dX5_clears_56 (by decide) ?_
          refine bo_to (v := (nI (f i))) (sS_c hf3 hg3 hh1) ?_
          refine lv_iload_n hx hb dX5_clears_57 rfl (lv_at hl 6 rfl) ?_
          refine lv_icmp_ne (tgt := 65) hx hb dX5_clears_58 (by decide) (fun c5 => ?_) (fun c5 => ?_)
          · skip
            have c6 : ¬ f i = c1 := fun z => c5 (by rw [z])
            refine lv_iconst (v := 0) hx hb dX5_clears_65 (by decide) ?_
            refine lv_goto (tgt := 84) hx hb dX5_clears_66 (by decide) ?_
            exact J84 _ (by first | exact bo_p (sn_g1 c4 c6) | exact bo_n (sn_g2 c4 c6) | exact bo_p (sn_g3 c4 c8) | exact bo_n (sn_g4 c4 c8))
          · skip
            have c6 : f i = c1 := nI_inj (by omega) (by omega) c5
            refine lv_iconst (v := 1) hx hb dX5_clears_61 (by decide) ?_
            refine lv_goto (tgt := 84) hx hb dX5_clears_62 (by decide) ?_
            exact J84 _ (by first | exact bo_p (sn_g1 c4 c6) | exact bo_n (sn_g2 c4 c6) | exact bo_p (sn_g3 c4 c8) | exact bo_n (sn_g4 c4 c8))
    · skip
      refine lv_iload hx hb dX5_clears_31 (lv_at hl 0 rfl) ?_
      refine lv_iconst (v := 4) hx hb dX5_clears_33 (by decide) ?_
      refine lv_idiv hx hb dX5_clears_34 (by decide) ?_
      refine lv_iconst (v := 4) hx hb dX5_clears_35 (by decide) ?_
      refine lv_irem hx hb dX5_clears_36 (by decide) ?_
      refine bo_to (v := (nI (g i))) (sS_d hf3 hg3 hh1) ?_
      refine lv_iload_n hx hb dX5_clears_37 rfl (lv_at hl 6 rfl) ?_
      refine lv_icmp_ne (tgt := 45) hx hb dX5_clears_38 (by decide) (fun c2 => ?_) (fun c2 => ?_)
      · skip
        have c3 : ¬ g i = d := fun z => c2 (by rw [z])
        refine lv_iconst (v := 0) hx hb dX5_clears_45 (by decide) ?_
        exact J46 _ (by first | exact bo_p c3 | exact bo_n c3)
      · skip
        have c3 : g i = d := nI_inj (by omega) (by omega) c2
        refine lv_iconst (v := 1) hx hb dX5_clears_41 (by decide) ?_
        refine lv_goto (tgt := 46) hx hb dX5_clears_42 (by decide) ?_
        exact J46 _ (by first | exact bo_p c3 | exact bo_n c3)
theorem ke_X5_agree : wl_V RX5 yX5_agree cX5_agree 8 (some .boolean) 2 := ⟨wd_c_X5_agree, wd_i_X5_agree, wd_s_X5_agree, wd_n_X5, by decide, by decide +kernel⟩
set_option maxHeartbeats 4000000 in
set_option maxRecDepth 100000 in
theorem m_X5_agree (l : Launch) (D : va_G) (cI : ClassId) (o : Nat) (a : Nat → Nat) (mm : q_Mem) (w d n : Nat) (f g h : Nat → Nat) (hd : d < 3) (hw : w < 40) (hS9 : sn_L mm w n f g h) : rc_C l yX5_agree cX5_agree 8 (some .boolean) 0 0 [.ref o, .int (nI w), .int (nI d)] (mo_B D cI o a mm) (fun r => r = if an_y (sn_agk d n f g h) (n * n) = true then 1 else 0) := by
  refine rc_of (by decide) (Nat.le_of_ble_eq_true rfl) ?_
  intro p e s m args below meth c hx hb hr hF hlk hB ls hl
  obtain ⟨hM, hK⟩ := hB
  have hl : lv_has ls 8 [(0, .ref o), (1, .int (nI w)), (2, .int (nI d))] := hl
  have hf : (0 : Nat) ≤ 0 ∧ (0 : Nat) ≤ 0 := ⟨Nat.le_refl 0, Nat.le_refl 0⟩
  obtain ⟨hn9, hn, hen⟩ := hS9
  have hnn : n * n ≤ 81 := Nat.mul_le_mul hn9 hn9
  refine lv_iconst (v := 0) hx hb dX5_agree_0 (by decide) ?_
  refine lv_istore_n (lv' := [(3, .int 0), (0, .ref o), (1, .int (nI w)), (2, .int (nI d))]) hx hb dX5_agree_1 rfl hl (by decide) rfl (fun ls hl => ?_)
  refine lv_iconst (v := 0) hx hb dX5_agree_2 (by decide) ?_
  refine lv_istore (lv' := [(4, .int 0), (3, .int 0), (0, .ref o), (1, .int (nI w)), (2, .int (nI d))]) hx hb dX5_agree_3 hl (by decide) rfl (fun ls hl => ?_)
  refine bo_loop (σ := Nat) (μ := fun (k : Nat) => n * n - k) (I := fun (k : Nat) (H : Heap) (locs : List Loc) (ls : Array Slot) => H = s.heap ∧ locs = [] ∧ lv_has ls 8 [(3, .int (if an_y (sn_agk d n f g h) k = true then 1 else 0)), (4, .int (nI k)), (0, .ref o), (1, .int (nI w)), (2, .int (nI d))] ∧ (k ≤ n * n)) (0) ⟨rfl, rfl, lv_sub hl [1, 0, 2, 3, 4] rfl, Nat.zero_le _⟩ ?_
  intro x5 H locs ls hI5 ih5
  obtain ⟨k, ex5⟩ : ∃ z, z = x5 := ⟨_, rfl⟩
  subst ex5
  obtain ⟨rfl, rfl, hl, hk⟩ := hI5
  refine lv_iload hx hb dX5_agree_5 (lv_at hl 1 rfl) ?_
  refine lv_aload_n hx hb dX5_agree_7 rfl (lv_at hl 2 rfl) ?_
  refine mo_get hF hK hM 17 (by decide) wd_f_X5_55 rfl dX5_agree_8 ?_
  refine lv_iload_n hx hb dX5_agree_11 rfl (lv_at hl 3 rfl) ?_
  refine mo_ald hF hK hM 17 w (by decide) rfl (by exact hw) dX5_agree_12 ?_
  refine bo_to (v := (nI n)) (hn) ?_
  refine lv_aload_n hx hb dX5_agree_13 rfl (lv_at hl 2 rfl) ?_
  refine mo_get hF hK hM 17 (by decide) wd_f_X5_55 rfl dX5_agree_14 ?_
  refine lv_iload_n hx hb dX5_agree_17 rfl (lv_at hl 3 rfl) ?_
  refine mo_ald hF hK hM 17 w (by decide) rfl (by exact hw) dX5_agree_18 ?_
  refine bo_to (v := (nI n)) (hn) ?_
  refine lv_imul hx hb dX5_agree_19 ?_
  refine bo_to (v := (nI (n * n))) (pk_mul _ _) ?_
  refine lv_icmp_ge (tgt := 143) hx hb dX5_agree_20 (by decide) (fun c1 => ?_) (fun c1 => ?_)
  · skip
    have hk2 : k = n * n := by have := (nI_leI (by omega) (by omega)).mp c1; omega
    refine lv_iload_n hx hb dX5_agree_143 rfl (lv_at hl 0 rfl) ?_
    exact rc_zret hx hb hr hlk (bo_bit rfl) (by rw [hk2]) dX5_agree_144
  · skip
    have hk2 : k < n * n := by have : ¬ n * n ≤ k := fun z => c1 ((nI_leI (by omega) (by omega)).mpr z); omega
    obtain ⟨hn0, hkd, hkm⟩ := nn_div hk2
    obtain ⟨p1, p2, p3, p4⟩ := hen _ hkd
    obtain ⟨r1, r2, r3, r4⟩ := hen _ hkm
    refine lv_aload_n hx hb dX5_agree_23 rfl (lv_at hl 2 rfl) ?_
    refine mo_get hF hK hM 18 (by decide) wd_f_X5_58 rfl dX5_agree_24 ?_
    refine lv_bipush (v := 9) hx hb dX5_agree_27 (by decide) ?_
    refine lv_iload_n hx hb dX5_agree_29 rfl (lv_at hl 3 rfl) ?_
    refine lv_imul hx hb dX5_agree_30 ?_
    refine bo_to (v := (nI (9 * w))) (pk_mul 9 w) ?_
    refine lv_iload hx hb dX5_agree_31 (lv_at hl 1 rfl) ?_
    refine lv_aload_n hx hb dX5_agree_33 rfl (lv_at hl 2 rfl) ?_
    refine mo_get hF hK hM 17 (by decide) wd_f_X5_55 rfl dX5_agree_34 ?_
    refine lv_iload_n hx hb dX5_agree_37 rfl (lv_at hl 3 rfl) ?_
    refine mo_ald hF hK hM 17 w (by decide) rfl (by exact hw) dX5_agree_38 ?_
    refine bo_to (v := (nI n)) (hn) ?_
    refine lv_idiv hx hb dX5_agree_39 (nI_ne0 hn0 (by omega)) ?_
    refine bo_to (v := (nI (k / n))) (pk_div (by omega) hn0 (by omega)) ?_
    refine lv_iadd hx hb dX5_agree_40 ?_
    refine bo_to (v := (nI (9 * w + k / n))) (nI_add _ _) ?_
    refine mo_ald hF hK hM 18 (9 * w + k / n) (by decide) rfl (show 9 * w + k / n < 360 by omega) dX5_agree_41 ?_
    refine bo_to (v := (sp_S (f (k / n)) (g (k / n)) (h (k / n)))) (p4) ?_
    refine lv_istore (lv' := [(5, .int (sp_S (f (k / n)) (g (k / n)) (h (k / n)))), (3, .int (if an_y (sn_agk d n f g h) k = true then 1 else 0)), (4, .int (nI k)), (0, .ref o), (1, .int (nI w)), (2, .int (nI d))]) hx hb dX5_agree_42 hl (by decide) rfl (fun ls hl => ?_)
    refine lv_aload_n hx hb dX5_agree_44 rfl (lv_at hl 3 rfl) ?_
    refine mo_get hF hK hM 18 (by decide) wd_f_X5_58 rfl dX5_agree_45 ?_
    refine lv_bipush (v := 9) hx hb dX5_agree_48 (by decide) ?_
    refine lv_iload_n hx hb dX5_agree_50 rfl (lv_at hl 4 rfl) ?_
    refine lv_imul hx hb dX5_agree_51 ?_
    refine bo_to (v := (nI (9 * w))) (pk_mul 9 w) ?_
    refine lv_iload hx hb dX5_agree_52 (lv_at hl 2 rfl) ?_
    refine lv_aload_n hx hb dX5_agree_54 rfl (lv_at hl 3 rfl) ?_
    refine mo_get hF hK hM 17 (by decide) wd_f_X5_55 rfl dX5_agree_55 ?_
    refine lv_iload_n hx hb dX5_agree_58 rfl (lv_at hl 4 rfl) ?_
    refine mo_ald hF hK hM 17 w (by decide) rfl (by exact hw) dX5_agree_59 ?_
    refine bo_to (v := (nI n)) (hn) ?_
    refine lv_irem hx hb dX5_agree_60 (nI_ne0 hn0 (by omega)) ?_
    refine bo_to (v := (nI (k % n))) (pk_rem (by omega) hn0 (by omega)) ?_
    refine lv_iadd hx hb dX5_agree_61 ?_
    refine bo_to (v := (nI (9 * w + k % n))) (nI_add _ _) ?_
    refine mo_ald hF hK hM 18 (9 * w + k % n) (by decide) rfl (show 9 * w + k % n < 360 by omega) dX5_agree_62 ?_
    refine bo_to (v := (sp_S (f (k % n)) (g (k % n)) (h (k % n)))) (r4) ?_
    refine lv_istore (lv' := [(6, .int (sp_S (f (k % n)) (g (k % n)) (h (k % n)))), (5, .int (sp_S (f (k / n)) (g (k / n)) (h (k / n)))), (3, .int (if an_y (sn_agk d n f g h) k = true then 1 else 0)), (4, .int (nI k)), (0, .ref o), (1, .int (nI w)), (2, .int (nI d))]) hx hb dX5_agree_63 hl (by decide) rfl (fun ls hl => ?_)
    refine bo_cut (ls := ls) (tgt := 101) (E := if g (k / n) = d ∧ g (k % n) = d ∧ ¬ f (k / n) = f (k % n) then 1 else 0) (rest := []) (fun vb evb => ?_) (fun J101 => ?_)
    · skip
      refine lv_istore (lv' := [(7, .int vb), (6, .int (sp_S (f (k % n)) (g (k % n)) (h (k % n)))), (5, .int (sp_S (f (k / n)) (g (k / n)) (h (k / n)))), (3, .int (if an_y (sn_agk d n f g h) k = true then 1 else 0)), (4, .int (nI k)), (0, .ref o), (1, .int (nI w)), (2, .int (nI d))]) hx hb dX5_agree_101 hl (by decide) rfl (fun ls hl => ?_)
      refine bo_cut (ls := ls) (tgt := 136) (E := (if an_y (sn_agk d n f g h) (k + 1) = true then 1 else 0)) (rest := []) (fun vo evo => ?_) (fun J136 => ?_)
      · skip
        subst evo
        refine lv_istore_n (lv' := [(3, .int (if an_y (sn_agk d n f g h) (k + 1) = true then 1 else 0)), (7, .int vb), (6, .int (sp_S (f (k % n)) (g (k % n)) (h (k % n)))), (5, .int (sp_S (f (k / n)) (g (k / n)) (h (k / n)))), (4, .int (nI k)), (0, .ref o), (1, .int (nI w)), (2, .int (nI d))]) hx hb dX5_agree_136 rfl hl (by decide) rfl (fun ls hl => ?_)
        refine lv_iinc (v := (nI (k + 1))) (lv' := [(4, .int (nI (k + 1))), (3, .int (if an_y (sn_agk d n f g h) (k + 1) = true then 1 else 0)), (7, .int vb), (6, .int (sp_S (f (k % n)) (g (k % n)) (h (k % n)))), (5, .int (sp_S (f (k / n)) (g (k / n)) (h (k / n)))), (0, .ref o), (1, .int (nI w)), (2, .int (nI d))]) hx hb dX5_agree_137 hl (k := 4) rfl (nI_1 k) (by decide) rfl (fun ls hl => ?_)
        refine lv_goto (tgt := 5) hx hb dX5_agree_140 (by decide) ?_
        exact ih5 (k + 1) _ _ _ (by show n * n - (k + 1) < n * n - k; omega) ⟨rfl, rfl, lv_sub hl [1, 0, 5, 6, 7] rfl, by omega⟩
      · skip
        refine lv_iload_n hx hb dX5_agree_103 rfl (lv_at hl 3 rfl) ?_
        refine bo_ne (tgt := 131) rfl hx hb dX5_agree_104 (by decide) (fun c5 => ?_) (fun c5 => ?_)
        · skip
          refine lv_iconst (v := 1) hx hb dX5_agree_131 (by decide) ?_
          refine lv_goto (tgt := 136) hx hb dX5_agree_132 (by decide) ?_
          exact J136 _ (by first | exact ag_1 c5 | exact ag_2 c6 c7 | exact ag_0 c5 c6 | exact ag_3 c5 c7)
        · skip
          refine lv_iload hx hb dX5_agree_107 (lv_at hl 0 rfl) ?_
          refine bo_eq (tgt := 135) evb hx hb dX5_agree_109 (by decide) (fun c6 => ?_) (fun c6 => ?_)
          · skip
            refine lv_iconst (v := 0) hx hb dX5_agree_135 (by decide) ?_
            exact J136 _ (by first | exact ag_1 c5 | exact ag_2 c6 c7 | exact ag_0 c5 c6 | exact ag_3 c5 c7)
          · skip
            refine lv_iload hx hb dX5_agree_112 (lv_at hl 2 rfl) ?_
            refine lv_bipush (v := 16) hx hb dX5_agree_114 (by decide) ?_
            refine lv_idiv hx hb dX5_agree_116 (by decide) ?_
            refine bo_to (v := (nI (h (k / n)))) (sS_q p1 p2 p3) ?_
            refine lv_iload hx hb dX5_agree_117 (lv_at hl 1 rfl) ?_
            refine lv_bipush (v := 16) hx hb dX5_agree_119 (by decide) ?_
            refine lv_idiv hx hb dX5_agree_121 (by decide) ?_
            refine bo_to (v := (nI (h (k % n)))) (sS_q r1 r2 r3) ?_
            refine lv_imul hx hb dX5_agree_122 ?_
            refine bo_to (v := (nI (h (k / n) * h (k % n)))) (pk_mul _ _) ?_
            refine lv_bipush (v := 100) hx hb dX5_agree_123 (by decide) ?_
            have hp81 : h (k / n) * h (k % n) ≤ 9801 := Nat.mul_le_mul (by omega : h (k / n) ≤ 99) (by omega : h (k % n) ≤ 99)
            refine lv_idiv hx hb dX5_agree_125 (by decide) ?_
            refine bo_to (v := (nI (h (k / n) * h (k % n) / 100))) (pk_div (d := 100) (by omega) (by decide) (by decide)) ?_
            refine lv_bipush (v := 20) hx hb dX5_agree_126 (by decide) ?_
            refine lv_icmp_gt (tgt := 135) hx hb dX5_agree_128 (by decide) (fun e7 => ?_) (fun e7 => ?_)
            · skip
              have c7 : ¬ h (k / n) * h (k % n) / 100 ≤ 20 := fun z => (bo_nlt (nI_le (b := 20) z (by decide))) e7
              refine lv_iconst (v := 0) hx hb dX5_agree_135 (by decide) ?_
              exact J136 _ (by first | exact ag_1 c5 | exact ag_2 c6 c7 | exact ag_0 c5 c6 | exact ag_3 c5 c7)
            · skip
              have c7 : h (k / n) * h (k % n) / 100 ≤ 20 := (nI_leI (b := 20) (by omega) (by decide)).mp (bo_lt e7)
              refine lv_iconst (v := 1) hx hb dX5_agree_131 (by decide) ?_
              refine lv_goto (tgt := 136) hx hb dX5_agree_132 (by decide) ?_
              exact J136 _ (by first | exact ag_1 c5 | exact ag_2 c6 c7 | exact ag_0 c5 c6 | exact ag_3 c5 c7)
    · skip
      refine lv_iload hx hb dX5_agree_65 (lv_at hl 1 rfl) ?_
      refine lv_iconst (v := 4) hx hb dX5_agree_67 (by decide) ?_
      refine lv_idiv hx hb dX5_agree_68 (by decide) ?_
      refine lv_iconst (v := 4) hx hb dX5_agree_69 (by decide) ?_
      refine lv_irem hx hb dX5_agree_70 (by decide) ?_
      refine bo_to (v := (nI (g (k / n)))) (sS_d p1 p2 p3) ?_
      refine lv_iload_n hx hb dX5_agree_71 rfl (lv_at hl 6 rfl) ?_
      refine lv_icmp_ne (tgt := 100) hx hb dX5_agree_72 (by decide) (fun e2 => ?_) (fun e2 => ?_)
      · skip
        have c2 : ¬ g (k / n) = d := fun z => e2 (by rw [z])
        refine lv_iconst (v := 0) hx hb dX5_agree_100 (by decide) ?_
        exact J101 _ (by first | exact bo_p ⟨c2, c3, c4⟩ | exact bo_n (fun z => c2 z.1) | exact bo_n (fun z => c3 z.2.1) | exact bo_n (fun z => z.2.2 c4))
      · skip
        have c2 : g (k / n) = d := nI_inj (by omega) (by omega) e2
        refine lv_iload hx hb dX5_agree_75 (lv_at hl 0 rfl) ?_
        refine lv_iconst (v := 4) hx hb dX5_agree_77 (by decide) ?_
        refine lv_idiv hx hb dX5_agree_78 (by decide) ?_
        refine lv_iconst (v := 4) hx hb dX5_agree_79 (by decide) ?_
        refine lv_irem hx hb dX5_agree_80 (by decide) ?_
        refine bo_to (v := (nI (g (k % n)))) (sS_d r1 r2 r3) ?_
        refine lv_iload_n hx hb dX5_agree_81 rfl (lv_at hl 6 rfl) ?_
        refine lv_icmp_ne (tgt := 100) hx hb dX5_agree_82 (by decide) (fun e3 => ?_) (fun e3 => ?_)
        · skip
          have c3 : ¬ g (k % n) = d := fun z => e3 (by rw [z])
          refine lv_iconst (v := 0) hx hb dX5_agree_100 (by decide) ?_
          exact J101 _ (by first | exact bo_p ⟨c2, c3, c4⟩ | exact bo_n (fun z => c2 z.1) | exact bo_n (fun z => c3 z.2.1) | exact bo_n (fun z => z.2.2 c4))
        · skip
          have c3 : g (k % n) = d := nI_inj (by omega) (by omega) e3
          refine lv_iload hx hb dX5_agree_85 (lv_at hl 1 rfl) ?_
          refine lv_iconst (v := 4) hx hb dX5_agree_87 (by decide) ?_
          refine lv_irem hx hb dX5_agree_88 (by decide) ?_
          refine bo_to (v := (nI (f (k / n)))) (sS_c p1 p2 p3) ?_
          refine lv_iload hx hb dX5_agree_89 (lv_at hl 0 rfl) ?_
          refine lv_iconst (v := 4) hx hb dX5_agree_91 (by decide) ?_
          refine lv_irem hx hb dX5_agree_92 (by decide) ?_
          refine bo_to (v := (nI (f (k % n)))) (sS_c r1 r2 r3) ?_
          refine lv_icmp_eq (tgt := 100) hx hb dX5_agree_93 (by decide) (fun e4 => ?_) (fun e4 => ?_)
          · skip
            have c4 : f (k / n) = f (k % n) := nI_inj (by omega) (by omega) e4
            refine lv_iconst (v := 0) hx hb dX5_agree_100 (by decide) ?_
            exact J101 _ (by first | exact bo_p ⟨c2, c3, c4⟩ | exact bo_n (fun z => c2 z.1) | exact bo_n (fun z => c3 z.2.1) | exact bo_n (fun z => z.2.2 c4))
          · skip
            have c4 : ¬ f (k / n) = f (k % n) := fun z => e4 (by rw [z])
            refine lv_iconst (v := 1) hx hb dX5_agree_96 (by decide) ?_
            refine lv_goto (tgt := 101) hx hb dX5_agree_97 (by decide) ?_
            exact J101 _ (by first | exact bo_p ⟨c2, c3, c4⟩ | exact bo_n (fun z => c2 z.1) | exact bo_n (fun z => c3 z.2.1) | exact bo_n (fun z => z.2.2 c4))
theorem ke_X5_dearBy : wl_V RX5 yX5_dearBy cX5_dearBy 6 (some .int) 1 := ⟨wd_c_X5_dearBy, wd_i_X5_dearBy, wd_s_X5_dearBy, wd_n_X5, by decide, by decide +kernel⟩
set_option maxHeartbeats 4000000 in
set_option maxRecDepth 100000 in
theorem m_X5_dearBy (l : Launch) (D : va_G) (cI : ClassId) (o : Nat) (a : Nat → Nat) (mm : q_Mem) (w n : Nat) (f g h : Nat → Nat) (hw : w < 40) (hS9 : sn_L mm w n f g h) (hL : mm 8 w = nI (sp_L mm w)) (hL4 : sp_L mm w < 4200) : rc_C l yX5_dearBy cX5_dearBy 6 (some .int) 1 21 [.ref o, .int (nI w)] (mo_B D cI o a mm) (fun r => r = it_n (sn_d1 (sp_vd (mm 11 (sp_L mm w))) g h) n 0 * (sp_vk (mm 11 (sp_L mm w)) + 1)) := by
  refine rc_of (by decide) (Nat.le_of_ble_eq_true rfl) ?_
  intro p e s m args below meth c hx hb hr hF hlk hB ls hl
  obtain ⟨hM, hK⟩ := hB
  have hl : lv_has ls 6 [(0, .ref o), (1, .int (nI w))] := hl
  have hf : (0 : Nat) ≤ 0 ∧ (0 : Nat) ≤ 0 := ⟨Nat.le_refl 0, Nat.le_refl 0⟩
  obtain ⟨hn9, hn, hen⟩ := hS9
  refine lv_iconst (v := 0) hx hb dX5_dearBy_0 (by decide) ?_
  refine lv_istore_n (lv' := [(2, .int 0), (0, .ref o), (1, .int (nI w))]) hx hb dX5_dearBy_1 rfl hl (by decide) rfl (fun ls hl => ?_)
  refine lv_iconst (v := 0) hx hb dX5_dearBy_2 (by decide) ?_
  refine lv_istore_n (lv' := [(3, .int 0), (2, .int 0), (0, .ref o), (1, .int (nI w))]) hx hb dX5_dearBy_3 rfl hl (by decide) rfl (fun ls hl => ?_)
  refine bo_loop (σ := Nat) (μ := fun (i : Nat) => n - i) (I := fun (i : Nat) (H : Heap) (locs : List Loc) (ls : Array Slot) => H = s.heap ∧ locs = [] ∧ lv_has ls 6 [(2, .int (it_n (sn_d1 (sp_vd (mm 11 (sp_L mm w))) g h) i 0)), (3, .int (nI i)), (0, .ref o), (1, .int (nI w))] ∧ (i ≤ n)) (0) ⟨rfl, rfl, lv_sub hl [1, 0, 2, 3] rfl, Nat.zero_le _⟩ ?_
  intro x4 H locs ls hI4 ih4
  obtain ⟨i, ex4⟩ : ∃ z, z = x4 := ⟨_, rfl⟩
  subst ex4
  obtain ⟨rfl, rfl, hl, hi⟩ := hI4
  refine lv_iload_n hx hb dX5_dearBy_4 rfl (lv_at hl 1 rfl) ?_
  refine lv_aload_n hx hb dX5_dearBy_5 rfl (lv_at hl 2 rfl) ?_
  refine mo_get hF hK hM 17 (by decide) wd_f_X5_55 rfl dX5_dearBy_6 ?_
  refine lv_iload_n hx hb dX5_dearBy_9 rfl (lv_at hl 3 rfl) ?_
  refine mo_ald hF hK hM 17 w (by decide) rfl (by exact hw) dX5_dearBy_10 ?_
  refine bo_to (v := (nI n)) (hn) ?_
  refine lv_icmp_ge (tgt := 74) hx hb dX5_dearBy_11 (by decide) (fun c1 => ?_) (fun c1 => ?_)
  · skip
    have hin : i = n := by have := (nI_leI (by omega) (by omega)).mp c1; omega
    refine lv_iload_n hx hb dX5_dearBy_74 rfl (lv_at hl 0 rfl) ?_
    refine lv_aload_n hx hb dX5_dearBy_75 rfl (lv_at hl 2 rfl) ?_
    refine lv_iload_n hx hb dX5_dearBy_76 rfl (lv_at hl 3 rfl) ?_
    refine rc_V (fr := 0) (lo := 0) (As := [.int (nI w)]) (rest := [.int (it_n (sn_d1 (sp_vd (mm 11 (sp_L mm w))) g h) i 0)]) hF (m_X5_kindNow l D cI o a mm w hw hL hL4) ke_X5_kindNow wd_l_X5_98 (by decide) mo_blind (fun U hU hv => ⟨by rw [hU]; exact hM, hK.moved hv⟩) (mo_recv hK hM) rfl hl.1 rfl (Nat.le_of_ble_eq_true rfl) dX5_dearBy_77 hf (fun r1 hr1 => ?_)
    replace hr1 : r1 = sp_vk (mm 11 (sp_L mm w)) := hr1
    subst hr1
    refine lv_iconst (v := 1) hx hb dX5_dearBy_80 (by decide) ?_
    refine lv_iadd hx hb dX5_dearBy_81 ?_
    refine lv_imul hx hb dX5_dearBy_82 ?_
    exact rc_iret hx hb hr hlk (by rw [hin]) dX5_dearBy_83
  · skip
    have hin : i < n := by have : ¬ n ≤ i := fun z => c1 ((nI_leI (by omega) (by omega)).mpr z); omega
    obtain ⟨hf3, hg3, hh1, hei⟩ := hen i hin
    refine lv_aload_n hx hb dX5_dearBy_14 rfl (lv_at hl 2 rfl) ?_
    refine mo_get hF hK hM 18 (by decide) wd_f_X5_58 rfl dX5_dearBy_15 ?_
    refine lv_bipush (v := 9) hx hb dX5_dearBy_18 (by decide) ?_
    refine lv_iload_n hx hb dX5_dearBy_20 rfl (lv_at hl 3 rfl) ?_
    refine lv_imul hx hb dX5_dearBy_21 ?_
    refine bo_to (v := (nI (9 * w))) (pk_mul 9 w) ?_
    refine lv_iload_n hx hb dX5_dearBy_22 rfl (lv_at hl 1 rfl) ?_
    refine lv_iadd hx hb dX5_dearBy_23 ?_
    refine bo_to (v := (nI (9 * w + i))) (nI_add _ _) ?_
    refine mo_ald hF hK hM 18 (9 * w + i) (by decide) rfl (show 9 * w + i < 360 by omega) dX5_dearBy_24 ?_
    refine bo_to (v := (sp_S (f i) (g i) (h i))) (hei) ?_
    refine lv_istore (lv' := [(4, .int (sp_S (f i) (g i) (h i))), (2, .int (it_n (sn_d1 (sp_vd (mm 11 (sp_L mm w))) g h) i 0)), (3, .int (nI i)), (0, .ref o), (1, .int (nI w))]) hx hb dX5_dearBy_25 hl (by decide) rfl (fun ls hl => ?_)
    refine bo_cut (ls := ls) (tgt := 53) (E := sn_sure (sp_vd (mm 11 (sp_L mm w))) g h i) (rest := []) (fun vq evq => ?_) (fun J53 => ?_)
    · skip
      subst evq
      refine lv_istore (lv' := [(5, .int (sn_sure (sp_vd (mm 11 (sp_L mm w))) g h i)), (4, .int (sp_S (f i) (g i) (h i))), (2, .int (it_n (sn_d1 (sp_vd (mm 11 (sp_L mm w))) g h) i 0)), (3, .int (nI i)), (0, .ref o), (1, .int (nI w))]) hx hb dX5_dearBy_53 hl (by decide) rfl (fun ls hl => ?_)
      refine bo_cut (ls := ls) (tgt := 67) (E := it_n (sn_d1 (sp_vd (mm 11 (sp_L mm w))) g h) (i + 1) 0) (rest := []) (fun vm evm => ?_) (fun J67 => ?_)
      · skip
        subst evm
        refine lv_istore_n (lv' := [(2, .int (it_n (sn_d1 (sp_vd (mm 11 (sp_L mm w))) g h) (i + 1) 0)), (5, .int (sn_sure (sp_vd (mm 11 (sp_L mm w))) g h i)), (4, .int (sp_S (f i) (g i) (h i))), (3, .int (nI i)), (0, .ref o), (1, .int (nI w))]) hx hb dX5_dearBy_67 rfl hl (by decide) rfl (fun ls hl => ?_)
        refine lv_iinc (v := (nI (i + 1))) (lv' := [(3, .int (nI (i + 1))), (2, .int (it_n (sn_d1 (sp_vd (mm 11 (sp_L mm w))) g h) (i + 1) 0)), (5, .int (sn_sure (sp_vd (mm 11 (sp_L mm w))) g h i)), (4, .int (sp_S (f i) (g i) (h i))), (0, .ref o), (1, .int (nI w))]) hx hb dX5_dearBy_68 hl (k := 3) rfl (nI_1 i) (by decide) rfl (fun ls hl => ?_)
        refine lv_goto (tgt := 4) hx hb dX5_dearBy_71 (by decide) ?_
        exact ih4 (i + 1) _ _ _ (by show n - (i + 1) < n - i; omega) ⟨rfl, rfl, lv_sub hl [1, 0, 4, 5] rfl, by omega⟩
      · skip
        refine lv_iload hx hb dX5_dearBy_55 (lv_at hl 0 rfl) ?_
        refine lv_iload_n hx hb dX5_dearBy_57 rfl (lv_at hl 2 rfl) ?_
        refine lv_icmp_le (tgt := 66) hx hb dX5_dearBy_58 (by decide) (fun c3 => ?_) (fun c3 => ?_)
        · skip
          refine lv_iload_n hx hb dX5_dearBy_66 rfl (lv_at hl 2 rfl) ?_
          exact J67 _ (by first | exact (if_pos (bo_le c3)).symm | exact (if_neg (bo_nlt c3)).symm)
        · skip
          refine lv_iload hx hb dX5_dearBy_61 (lv_at hl 0 rfl) ?_
          refine lv_goto (tgt := 67) hx hb dX5_dearBy_63 (by decide) ?_
          exact J67 _ (by first | exact (if_pos (bo_le c3)).symm | exact (if_neg (bo_nlt c3)).symm)
    · skip
      refine lv_iload hx hb dX5_dearBy_27 (lv_at hl 0 rfl) ?_
      refine lv_iconst (v := 4) hx hb dX5_dearBy_29 (by decide) ?_
      refine lv_idiv hx hb dX5_dearBy_30 (by decide) ?_
      refine lv_iconst (v := 4) hx hb dX5_dearBy_31 (by decide) ?_
      refine lv_irem hx hb dX5_dearBy_32 (by decide) ?_
      refine bo_to (v := (nI (g i))) (sS_d hf3 hg3 hh1) ?_
      refine lv_aload_n hx hb dX5_dearBy_33 rfl (lv_at hl 3 rfl) ?_
      refine lv_iload_n hx hb dX5_dearBy_34 rfl (lv_at hl 4 rfl) ?_
      refine rc_V (fr := 0) (lo := 0) (As := [.int (nI w)]) (rest := [.int (nI (g i))]) hF (m_X5_directionNow l D cI o a mm w hw hL hL4) ke_X5_directionNow wd_l_X5_101 (by decide) mo_blind (fun U hU hv => ⟨by rw [hU]; exact hM, hK.moved hv⟩) (mo_recv hK hM) rfl hl.1 rfl (Nat.le_of_ble_eq_true rfl) dX5_dearBy_35 hf (fun r4 hr4 => ?_)
      replace hr4 : r4 = sp_vd (mm 11 (sp_L mm w)) := hr4
      subst hr4
      refine lv_icmp_ne (tgt := 45) hx hb dX5_dearBy_38 (by decide) (fun c2 => ?_) (fun c2 => ?_)
      · skip
        refine lv_bipush (v := 100) hx hb dX5_dearBy_45 (by decide) ?_
        refine lv_iload hx hb dX5_dearBy_47 (lv_at hl 0 rfl) ?_
        refine lv_bipush (v := 16) hx hb dX5_dearBy_49 (by decide) ?_
        refine lv_idiv hx hb dX5_dearBy_51 (by decide) ?_
        refine bo_to (v := (nI (h i))) (sS_q hf3 hg3 hh1) ?_
        refine lv_isub hx hb dX5_dearBy_52 ?_
        exact J53 _ (by first | exact (if_pos c2).symm | exact (if_neg c2).symm)
      · skip
        refine lv_iconst (v := 0) hx hb dX5_dearBy_41 (by decide) ?_
        refine lv_goto (tgt := 53) hx hb dX5_dearBy_42 (by decide) ?_
        exact J53 _ (by first | exact (if_pos c2).symm | exact (if_neg c2).symm)
