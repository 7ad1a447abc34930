theorem dX5_addWay_0 : decode cX5_addWay 0 = .ok (.iload 4, 2) := by decide +kernel
theorem dX5_addWay_2 : decode cX5_addWay 2 = .ok (.ifCond .eq 19, 3) := by decide +kernel
theorem dX5_addWay_5 : decode cX5_addWay 5 = .ok (.iload 4, 2) := by decide +kernel
theorem dX5_addWay_7 : decode cX5_addWay 7 = .ok (.bipush (-16), 2) := by decide +kernel
theorem dX5_addWay_9 : decode cX5_addWay 9 = .ok (.bipush 16, 2) := by decide +kernel
theorem dX5_addWay_11 : decode cX5_addWay 11 = .ok (.invokestatic 65, 3) := by decide +kernel
theorem dX5_addWay_14 : decode cX5_addWay 14 = .ok (.ifCond .eq 7, 3) := by decide +kernel
theorem dX5_addWay_17 : decode cX5_addWay 17 = .ok (.iconst 1, 1) := by decide +kernel
theorem dX5_addWay_18 : decode cX5_addWay 18 = .ok (.goto 4, 3) := by decide +kernel
theorem dX5_addWay_21 : decode cX5_addWay 21 = .ok (.iconst 0, 1) := by decide +kernel
theorem dX5_addWay_22 : decode cX5_addWay 22 = .ok (.istore 6, 2) := by decide +kernel
theorem dX5_addWay_24 : decode cX5_addWay 24 = .ok (.iload 4, 2) := by decide +kernel
theorem dX5_addWay_26 : decode cX5_addWay 26 = .ok (.ifCond .le 10, 3) := by decide +kernel
theorem dX5_addWay_29 : decode cX5_addWay 29 = .ok (.iload_n 2, 1) := by decide +kernel
theorem dX5_addWay_30 : decode cX5_addWay 30 = .ok (.iload 4, 2) := by decide +kernel
theorem dX5_addWay_32 : decode cX5_addWay 32 = .ok (.iadd, 1) := by decide +kernel
theorem dX5_addWay_33 : decode cX5_addWay 33 = .ok (.goto 4, 3) := by decide +kernel
theorem dX5_addWay_36 : decode cX5_addWay 36 = .ok (.iload_n 2, 1) := by decide +kernel
theorem dX5_addWay_37 : decode cX5_addWay 37 = .ok (.istore 7, 2) := by decide +kernel
theorem dX5_addWay_39 : decode cX5_addWay 39 = .ok (.iload 4, 2) := by decide +kernel
theorem dX5_addWay_41 : decode cX5_addWay 41 = .ok (.ifCond .ge 10, 3) := by decide +kernel
theorem dX5_addWay_44 : decode cX5_addWay 44 = .ok (.iload_n 3, 1) := by decide +kernel
theorem dX5_addWay_45 : decode cX5_addWay 45 = .ok (.iload 4, 2) := by decide +kernel
theorem dX5_addWay_47 : decode cX5_addWay 47 = .ok (.isub, 1) := by decide +kernel
theorem dX5_addWay_48 : decode cX5_addWay 48 = .ok (.goto 4, 3) := by decide +kernel
theorem dX5_addWay_51 : decode cX5_addWay 51 = .ok (.iload_n 3, 1) := by decide +kernel
theorem dX5_addWay_52 : decode cX5_addWay 52 = .ok (.istore 8, 2) := by decide +kernel
theorem dX5_addWay_54 : decode cX5_addWay 54 = .ok (.aload_n 0, 1) := by decide +kernel
theorem dX5_addWay_55 : decode cX5_addWay 55 = .ok (.iload_n 1, 1) := by decide +kernel
theorem dX5_addWay_56 : decode cX5_addWay 56 = .ok (.invokestatic 75, 3) := by decide +kernel
theorem dX5_addWay_59 : decode cX5_addWay 59 = .ok (.ifCond .eq 30, 3) := by decide +kernel
theorem dX5_addWay_62 : decode cX5_addWay 62 = .ok (.iload_n 2, 1) := by decide +kernel
theorem dX5_addWay_63 : decode cX5_addWay 63 = .ok (.iload_n 3, 1) := by decide +kernel
theorem dX5_addWay_64 : decode cX5_addWay 64 = .ok (.invokestatic 79, 3) := by decide +kernel
theorem dX5_addWay_67 : decode cX5_addWay 67 = .ok (.ifCond .eq 22, 3) := by decide +kernel
theorem dX5_addWay_70 : decode cX5_addWay 70 = .ok (.iload 6, 2) := by decide +kernel
theorem dX5_addWay_72 : decode cX5_addWay 72 = .ok (.ifCond .eq 13, 3) := by decide +kernel
theorem dX5_addWay_75 : decode cX5_addWay 75 = .ok (.iload 7, 2) := by decide +kernel
theorem dX5_addWay_77 : decode cX5_addWay 77 = .ok (.iload 8, 2) := by decide +kernel
theorem dX5_addWay_79 : decode cX5_addWay 79 = .ok (.invokestatic 79, 3) := by decide +kernel
theorem dX5_addWay_82 : decode cX5_addWay 82 = .ok (.ifCond .eq 7, 3) := by decide +kernel
theorem dX5_addWay_85 : decode cX5_addWay 85 = .ok (.iconst 1, 1) := by decide +kernel
theorem dX5_addWay_86 : decode cX5_addWay 86 = .ok (.goto 4, 3) := by decide +kernel
theorem dX5_addWay_89 : decode cX5_addWay 89 = .ok (.iconst 0, 1) := by decide +kernel
theorem dX5_addWay_90 : decode cX5_addWay 90 = .ok (.invokevirtual 83, 3) := by decide +kernel
theorem dX5_addWay_93 : decode cX5_addWay 93 = .ok (.ifCond .ne 5, 3) := by decide +kernel
theorem dX5_addWay_96 : decode cX5_addWay 96 = .ok (.iconst 0, 1) := by decide +kernel
theorem dX5_addWay_97 : decode cX5_addWay 97 = .ok (.ireturn, 1) := by decide +kernel
theorem dX5_addWay_98 : decode cX5_addWay 98 = .ok (.iload 6, 2) := by decide +kernel
theorem dX5_addWay_100 : decode cX5_addWay 100 = .ok (.ifCond .eq 13, 3) := by decide +kernel
theorem dX5_addWay_103 : decode cX5_addWay 103 = .ok (.iload 5, 2) := by decide +kernel
theorem dX5_addWay_105 : decode cX5_addWay 105 = .ok (.iconst 0, 1) := by decide +kernel
theorem dX5_addWay_106 : decode cX5_addWay 106 = .ok (.iconst 3, 1) := by decide +kernel
theorem dX5_addWay_107 : decode cX5_addWay 107 = .ok (.invokestatic 65, 3) := by decide +kernel
theorem dX5_addWay_110 : decode cX5_addWay 110 = .ok (.ifCond .ne 9, 3) := by decide +kernel
theorem dX5_addWay_113 : decode cX5_addWay 113 = .ok (.aload_n 0, 1) := by decide +kernel
theorem dX5_addWay_114 : decode cX5_addWay 114 = .ok (.iconst 2, 1) := by decide +kernel
theorem dX5_addWay_115 : decode cX5_addWay 115 = .ok (.invokevirtual 87, 3) := by decide +kernel
theorem dX5_addWay_118 : decode cX5_addWay 118 = .ok (.ireturn, 1) := by decide +kernel
theorem dX5_addWay_119 : decode cX5_addWay 119 = .ok (.aload_n 0, 1) := by decide +kernel
theorem dX5_addWay_120 : decode cX5_addWay 120 = .ok (.getfield 69, 3) := by decide +kernel
theorem dX5_addWay_123 : decode cX5_addWay 123 = .ok (.bipush 40, 2) := by decide +kernel
theorem dX5_addWay_125 : decode cX5_addWay 125 = .ok (.if_icmp .ne 9, 3) := by decide +kernel
theorem dX5_addWay_128 : decode cX5_addWay 128 = .ok (.aload_n 0, 1) := by decide +kernel
theorem dX5_addWay_129 : decode cX5_addWay 129 = .ok (.iconst 3, 1) := by decide +kernel
theorem dX5_addWay_130 : decode cX5_addWay 130 = .ok (.invokevirtual 87, 3) := by decide +kernel
theorem dX5_addWay_133 : decode cX5_addWay 133 = .ok (.ireturn, 1) := by decide +kernel
theorem dX5_addWay_134 : decode cX5_addWay 134 = .ok (.aload_n 0, 1) := by decide +kernel
theorem dX5_addWay_135 : decode cX5_addWay 135 = .ok (.getfield 13, 3) := by decide +kernel
theorem dX5_addWay_138 : decode cX5_addWay 138 = .ok (.aload_n 0, 1) := by decide +kernel
theorem dX5_addWay_139 : decode cX5_addWay 139 = .ok (.getfield 69, 3) := by decide +kernel
theorem dX5_addWay_142 : decode cX5_addWay 142 = .ok (.iload_n 2, 1) := by decide +kernel
theorem dX5_addWay_143 : decode cX5_addWay 143 = .ok (.iastore, 1) := by decide +kernel
theorem dX5_addWay_144 : decode cX5_addWay 144 = .ok (.aload_n 0, 1) := by decide +kernel
theorem dX5_addWay_145 : decode cX5_addWay 145 = .ok (.getfield 16, 3) := by decide +kernel
theorem dX5_addWay_148 : decode cX5_addWay 148 = .ok (.aload_n 0, 1) := by decide +kernel
theorem dX5_addWay_149 : decode cX5_addWay 149 = .ok (.getfield 69, 3) := by decide +kernel
theorem dX5_addWay_152 : decode cX5_addWay 152 = .ok (.iload_n 3, 1) := by decide +kernel
theorem dX5_addWay_153 : decode cX5_addWay 153 = .ok (.iastore, 1) := by decide +kernel
theorem dX5_addWay_154 : decode cX5_addWay 154 = .ok (.aload_n 0, 1) := by decide +kernel
theorem dX5_addWay_155 : decode cX5_addWay 155 = .ok (.getfield 19, 3) := by decide +kernel
theorem dX5_addWay_158 : decode cX5_addWay 158 = .ok (.aload_n 0, 1) := by decide +kernel
theorem dX5_addWay_159 : decode cX5_addWay 159 = .ok (.getfield 69, 3) := by decide +kernel
theorem dX5_addWay_162 : decode cX5_addWay 162 = .ok (.iload 7, 2) := by decide +kernel
theorem dX5_addWay_164 : decode cX5_addWay 164 = .ok (.iastore, 1) := by decide +kernel
theorem dX5_addWay_165 : decode cX5_addWay 165 = .ok (.aload_n 0, 1) := by decide +kernel
theorem dX5_addWay_166 : decode cX5_addWay 166 = .ok (.getfield 22, 3) := by decide +kernel
theorem dX5_addWay_169 : decode cX5_addWay 169 = .ok (.aload_n 0, 1) := by decide +kernel
theorem dX5_addWay_170 : decode cX5_addWay 170 = .ok (.getfield 69, 3) := by decide +kernel
theorem dX5_addWay_173 : decode cX5_addWay 173 = .ok (.iload 8, 2) := by decide +kernel
theorem dX5_addWay_175 : decode cX5_addWay 175 = .ok (.iastore, 1) := by decide +kernel
theorem dX5_addWay_176 : decode cX5_addWay 176 = .ok (.aload_n 0, 1) := by decide +kernel
theorem dX5_addWay_177 : decode cX5_addWay 177 = .ok (.aload_n 0, 1) := by decide +kernel
theorem dX5_addWay_178 : decode cX5_addWay 178 = .ok (.getfield 69, 3) := by decide +kernel
theorem dX5_addWay_181 : decode cX5_addWay 181 = .ok (.iload 5, 2) := by decide +kernel
theorem dX5_addWay_183 : decode cX5_addWay 183 = .ok (.iconst 0, 1) := by decide +kernel
theorem dX5_addWay_184 : decode cX5_addWay 184 = .ok (.iload_n 1, 1) := by decide +kernel
theorem dX5_addWay_185 : decode cX5_addWay 185 = .ok (.invokevirtual 91, 3) := by decide +kernel
theorem dX5_addWay_188 : decode cX5_addWay 188 = .ok (.aload_n 0, 1) := by decide +kernel
theorem dX5_addWay_189 : decode cX5_addWay 189 = .ok (.dup, 1) := by decide +kernel
theorem dX5_addWay_190 : decode cX5_addWay 190 = .ok (.getfield 69, 3) := by decide +kernel
theorem dX5_addWay_193 : decode cX5_addWay 193 = .ok (.iconst 1, 1) := by decide +kernel
theorem dX5_addWay_194 : decode cX5_addWay 194 = .ok (.iadd, 1) := by decide +kernel
theorem dX5_addWay_195 : decode cX5_addWay 195 = .ok (.putfield 69, 3) := by decide +kernel
theorem dX5_addWay_198 : decode cX5_addWay 198 = .ok (.aload_n 0, 1) := by decide +kernel
theorem dX5_addWay_199 : decode cX5_addWay 199 = .ok (.getfield 69, 3) := by decide +kernel
theorem dX5_addWay_202 : decode cX5_addWay 202 = .ok (.iconst 1, 1) := by decide +kernel
theorem dX5_addWay_203 : decode cX5_addWay 203 = .ok (.isub, 1) := by decide +kernel
theorem dX5_addWay_204 : decode cX5_addWay 204 = .ok (.ireturn, 1) := by decide +kernel
theorem dX5_guard_0 : decode cX5_guard 0 = .ok (.aload_n 0, 1) := by decide +kernel
theorem dX5_guard_1 : decode cX5_guard 1 = .ok (.aload_n 0, 1) := by decide +kernel
theorem dX5_guard_2 : decode cX5_guard 2 = .ok (.iload_n 1, 1) := by decide +kernel
theorem dX5_guard_3 : decode cX5_guard 3 = .ok (.invokevirtual 95, 3) := by decide +kernel
theorem dX5_guard_6 : decode cX5_guard 6 = .ok (.invokevirtual 83, 3) := by decide +kernel
theorem dX5_guard_9 : decode cX5_guard 9 = .ok (.ifCond .ne 5, 3) := by decide +kernel
theorem dX5_guard_12 : decode cX5_guard 12 = .ok (.iconst 0, 1) := by decide +kernel
theorem dX5_guard_13 : decode cX5_guard 13 = .ok (.ireturn, 1) := by decide +kernel
theorem dX5_guard_14 : decode cX5_guard 14 = .ok (.iload_n 2, 1) := by decide +kernel
theorem dX5_guard_15 : decode cX5_guard 15 = .ok (.iconst 0, 1) := by decide +kernel
theorem dX5_guard_16 : decode cX5_guard 16 = .ok (.bipush 100, 2) := by decide +kernel
theorem dX5_guard_18 : decode cX5_guard 18 = .ok (.invokestatic 65, 3) := by decide +kernel
theorem dX5_guard_21 : decode cX5_guard 21 = .ok (.ifCond .ne 9, 3) := by decide +kernel
theorem dX5_guard_24 : decode cX5_guard 24 = .ok (.aload_n 0, 1) := by decide +kernel
theorem dX5_guard_25 : decode cX5_guard 25 = .ok (.iconst 2, 1) := by decide +kernel
theorem dX5_guard_26 : decode cX5_guard 26 = .ok (.invokevirtual 87, 3) := by decide +kernel
theorem dX5_guard_29 : decode cX5_guard 29 = .ok (.ireturn, 1) := by decide +kernel
theorem dX5_guard_30 : decode cX5_guard 30 = .ok (.aload_n 0, 1) := by decide +kernel
theorem dX5_guard_31 : decode cX5_guard 31 = .ok (.getfield 25, 3) := by decide +kernel
theorem dX5_guard_34 : decode cX5_guard 34 = .ok (.iload_n 1, 1) := by decide +kernel
theorem dX5_guard_35 : decode cX5_guard 35 = .ok (.iaload, 1) := by decide +kernel
theorem dX5_guard_36 : decode cX5_guard 36 = .ok (.istore_n 3, 1) := by decide +kernel
theorem dX5_guard_37 : decode cX5_guard 37 = .ok (.aload_n 0, 1) := by decide +kernel
theorem dX5_guard_38 : decode cX5_guard 38 = .ok (.getfield 25, 3) := by decide +kernel
theorem dX5_guard_41 : decode cX5_guard 41 = .ok (.iload_n 1, 1) := by decide +kernel
theorem dX5_guard_42 : decode cX5_guard 42 = .ok (.iload_n 2, 1) := by decide +kernel
theorem dX5_guard_43 : decode cX5_guard 43 = .ok (.iastore, 1) := by decide +kernel
theorem dX5_guard_44 : decode cX5_guard 44 = .ok (.iload_n 3, 1) := by decide +kernel
theorem dX5_guard_45 : decode cX5_guard 45 = .ok (.ireturn, 1) := by decide +kernel
theorem dX5_judge_0 : decode cX5_judge 0 = .ok (.aload_n 0, 1) := by decide +kernel
theorem dX5_judge_1 : decode cX5_judge 1 = .ok (.iload_n 1, 1) := by decide +kernel
theorem dX5_judge_2 : decode cX5_judge 2 = .ok (.invokestatic 75, 3) := by decide +kernel
theorem dX5_judge_5 : decode cX5_judge 5 = .ok (.ifCond .eq 15, 3) := by decide +kernel
theorem dX5_judge_8 : decode cX5_judge 8 = .ok (.aload_n 0, 1) := by decide +kernel
theorem dX5_judge_9 : decode cX5_judge 9 = .ok (.iload_n 2, 1) := by decide +kernel
theorem dX5_judge_10 : decode cX5_judge 10 = .ok (.invokevirtual 95, 3) := by decide +kernel
theorem dX5_judge_13 : decode cX5_judge 13 = .ok (.ifCond .eq 7, 3) := by decide +kernel
theorem dX5_judge_16 : decode cX5_judge 16 = .ok (.iconst 1, 1) := by decide +kernel
theorem dX5_judge_17 : decode cX5_judge 17 = .ok (.goto 4, 3) := by decide +kernel
theorem dX5_judge_20 : decode cX5_judge 20 = .ok (.iconst 0, 1) := by decide +kernel
theorem dX5_judge_21 : decode cX5_judge 21 = .ok (.invokevirtual 83, 3) := by decide +kernel
theorem dX5_judge_24 : decode cX5_judge 24 = .ok (.ifCond .ne 5, 3) := by decide +kernel
theorem dX5_judge_27 : decode cX5_judge 27 = .ok (.iconst 0, 1) := by decide +kernel
theorem dX5_judge_28 : decode cX5_judge 28 = .ok (.ireturn, 1) := by decide +kernel
theorem dX5_judge_29 : decode cX5_judge 29 = .ok (.aload_n 0, 1) := by decide +kernel
theorem dX5_judge_30 : decode cX5_judge 30 = .ok (.getfield 34, 3) := by decide +kernel
theorem dX5_judge_33 : decode cX5_judge 33 = .ok (.iload_n 2, 1) := by decide +kernel
theorem dX5_judge_34 : decode cX5_judge 34 = .ok (.iaload, 1) := by decide +kernel
theorem dX5_judge_35 : decode cX5_judge 35 = .ok (.istore 4, 2) := by decide +kernel
theorem dX5_judge_37 : decode cX5_judge 37 = .ok (.iload 4, 2) := by decide +kernel
theorem dX5_judge_39 : decode cX5_judge 39 = .ok (.bipush 10, 2) := by decide +kernel
theorem dX5_judge_41 : decode cX5_judge 41 = .ok (.irem, 1) := by decide +kernel
theorem dX5_judge_42 : decode cX5_judge 42 = .ok (.iconst 1, 1) := by decide +kernel
theorem dX5_judge_43 : decode cX5_judge 43 = .ok (.isub, 1) := by decide +kernel
theorem dX5_judge_44 : decode cX5_judge 44 = .ok (.istore 5, 2) := by decide +kernel
theorem dX5_judge_46 : decode cX5_judge 46 = .ok (.iload 4, 2) := by decide +kernel
theorem dX5_judge_48 : decode cX5_judge 48 = .ok (.iconst (-1), 1) := by decide +kernel
theorem dX5_judge_49 : decode cX5_judge 49 = .ok (.if_icmp .eq 24, 3) := by decide +kernel
theorem dX5_judge_52 : decode cX5_judge 52 = .ok (.iload 5, 2) := by decide +kernel
theorem dX5_judge_54 : decode cX5_judge 54 = .ok (.iload_n 1, 1) := by decide +kernel
theorem dX5_judge_55 : decode cX5_judge 55 = .ok (.if_icmp .eq 18, 3) := by decide +kernel
theorem dX5_judge_58 : decode cX5_judge 58 = .ok (.aload_n 0, 1) := by decide +kernel
theorem dX5_judge_59 : decode cX5_judge 59 = .ok (.getfield 7, 3) := by decide +kernel
theorem dX5_judge_62 : decode cX5_judge 62 = .ok (.iload_n 1, 1) := by decide +kernel
theorem dX5_judge_63 : decode cX5_judge 63 = .ok (.iaload, 1) := by decide +kernel
theorem dX5_judge_64 : decode cX5_judge 64 = .ok (.aload_n 0, 1) := by decide +kernel
theorem dX5_judge_65 : decode cX5_judge 65 = .ok (.getfield 25, 3) := by decide +kernel
theorem dX5_judge_68 : decode cX5_judge 68 = .ok (.iload_n 2, 1) := by decide +kernel
theorem dX5_judge_69 : decode cX5_judge 69 = .ok (.iaload, 1) := by decide +kernel
theorem dX5_judge_70 : decode cX5_judge 70 = .ok (.if_icmp .ge 9, 3) := by decide +kernel
theorem dX5_judge_73 : decode cX5_judge 73 = .ok (.aload_n 0, 1) := by decide +kernel
theorem dX5_judge_74 : decode cX5_judge 74 = .ok (.iconst 2, 1) := by decide +kernel
theorem dX5_judge_75 : decode cX5_judge 75 = .ok (.invokevirtual 87, 3) := by decide +kernel
theorem dX5_judge_78 : decode cX5_judge 78 = .ok (.ireturn, 1) := by decide +kernel
theorem dX5_judge_79 : decode cX5_judge 79 = .ok (.iload_n 3, 1) := by decide +kernel
theorem dX5_judge_80 : decode cX5_judge 80 = .ok (.ifCond .eq 21, 3) := by decide +kernel
theorem dX5_judge_83 : decode cX5_judge 83 = .ok (.aload_n 0, 1) := by decide +kernel
theorem dX5_judge_84 : decode cX5_judge 84 = .ok (.getfield 34, 3) := by decide +kernel
theorem dX5_judge_87 : decode cX5_judge 87 = .ok (.iload_n 2, 1) := by decide +kernel
theorem dX5_judge_88 : decode cX5_judge 88 = .ok (.iconst (-1), 1) := by decide +kernel
theorem dX5_judge_89 : decode cX5_judge 89 = .ok (.iastore, 1) := by decide +kernel
theorem dX5_judge_90 : decode cX5_judge 90 = .ok (.aload_n 0, 1) := by decide +kernel
theorem dX5_judge_91 : decode cX5_judge 91 = .ok (.iload 5, 2) := by decide +kernel
theorem dX5_judge_93 : decode cX5_judge 93 = .ok (.bipush (-5), 2) := by decide +kernel
theorem dX5_judge_95 : decode cX5_judge 95 = .ok (.invokevirtual 104, 3) := by decide +kernel
theorem dX5_judge_98 : decode cX5_judge 98 = .ok (.goto 30, 3) := by decide +kernel
theorem dX5_judge_101 : decode cX5_judge 101 = .ok (.aload_n 0, 1) := by decide +kernel
theorem dX5_judge_102 : decode cX5_judge 102 = .ok (.iload_n 2, 1) := by decide +kernel
theorem dX5_judge_103 : decode cX5_judge 103 = .ok (.iload 4, 2) := by decide +kernel
theorem dX5_judge_105 : decode cX5_judge 105 = .ok (.bipush 100, 2) := by decide +kernel
theorem dX5_judge_107 : decode cX5_judge 107 = .ok (.idiv, 1) := by decide +kernel
theorem dX5_judge_108 : decode cX5_judge 108 = .ok (.iload 4, 2) := by decide +kernel
theorem dX5_judge_110 : decode cX5_judge 110 = .ok (.bipush 100, 2) := by decide +kernel
theorem dX5_judge_112 : decode cX5_judge 112 = .ok (.irem, 1) := by decide +kernel
theorem dX5_judge_113 : decode cX5_judge 113 = .ok (.bipush 10, 2) := by decide +kernel
theorem dX5_judge_115 : decode cX5_judge 115 = .ok (.idiv, 1) := by decide +kernel
theorem dX5_judge_116 : decode cX5_judge 116 = .ok (.iload 5, 2) := by decide +kernel
theorem dX5_judge_118 : decode cX5_judge 118 = .ok (.invokevirtual 91, 3) := by decide +kernel
theorem dX5_judge_121 : decode cX5_judge 121 = .ok (.aload_n 0, 1) := by decide +kernel
theorem dX5_judge_122 : decode cX5_judge 122 = .ok (.iload 5, 2) := by decide +kernel
theorem dX5_judge_124 : decode cX5_judge 124 = .ok (.iconst 5, 1) := by decide +kernel
theorem dX5_judge_125 : decode cX5_judge 125 = .ok (.invokevirtual 104, 3) := by decide +kernel
theorem dX5_judge_128 : decode cX5_judge 128 = .ok (.aload_n 0, 1) := by decide +kernel
theorem dX5_judge_129 : decode cX5_judge 129 = .ok (.getfield 7, 3) := by decide +kernel
theorem dX5_judge_132 : decode cX5_judge 132 = .ok (.iload 5, 2) := by decide +kernel
theorem dX5_judge_134 : decode cX5_judge 134 = .ok (.iaload, 1) := by decide +kernel
theorem dX5_judge_135 : decode cX5_judge 135 = .ok (.ireturn, 1) := by decide +kernel
theorem dX5_revert_0 : decode cX5_revert 0 = .ok (.aload_n 0, 1) := by decide +kernel
theorem dX5_revert_1 : decode cX5_revert 1 = .ok (.iload_n 1, 1) := by decide +kernel
theorem dX5_revert_2 : decode cX5_revert 2 = .ok (.invokestatic 75, 3) := by decide +kernel
theorem dX5_revert_5 : decode cX5_revert 5 = .ok (.ifCond .eq 15, 3) := by decide +kernel
theorem dX5_revert_8 : decode cX5_revert 8 = .ok (.aload_n 0, 1) := by decide +kernel
theorem dX5_revert_9 : decode cX5_revert 9 = .ok (.iload_n 2, 1) := by decide +kernel
theorem dX5_revert_10 : decode cX5_revert 10 = .ok (.invokevirtual 95, 3) := by decide +kernel
theorem dX5_revert_13 : decode cX5_revert 13 = .ok (.ifCond .eq 7, 3) := by decide +kernel
theorem dX5_revert_16 : decode cX5_revert 16 = .ok (.iconst 1, 1) := by decide +kernel
theorem dX5_revert_17 : decode cX5_revert 17 = .ok (.goto 4, 3) := by decide +kernel
theorem dX5_revert_20 : decode cX5_revert 20 = .ok (.iconst 0, 1) := by decide +kernel
theorem dX5_revert_21 : decode cX5_revert 21 = .ok (.invokevirtual 83, 3) := by decide +kernel
theorem dX5_revert_24 : decode cX5_revert 24 = .ok (.ifCond .ne 5, 3) := by decide +kernel
theorem dX5_revert_27 : decode cX5_revert 27 = .ok (.iconst 0, 1) := by decide +kernel
theorem dX5_revert_28 : decode cX5_revert 28 = .ok (.ireturn, 1) := by decide +kernel
theorem dX5_revert_29 : decode cX5_revert 29 = .ok (.aload_n 0, 1) := by decide +kernel
theorem dX5_revert_30 : decode cX5_revert 30 = .ok (.getfield 37, 3) := by decide +kernel
theorem dX5_revert_33 : decode cX5_revert 33 = .ok (.aload_n 0, 1) := by decide +kernel
theorem dX5_revert_34 : decode cX5_revert 34 = .ok (.getfield 31, 3) := by decide +kernel
theorem dX5_revert_37 : decode cX5_revert 37 = .ok (.iload_n 2, 1) := by decide +kernel
theorem dX5_revert_38 : decode cX5_revert 38 = .ok (.iaload, 1) := by decide +kernel
theorem dX5_revert_39 : decode cX5_revert 39 = .ok (.iaload, 1) := by decide +kernel
theorem dX5_revert_40 : decode cX5_revert 40 = .ok (.bipush 10, 2) := by decide +kernel
theorem dX5_revert_42 : decode cX5_revert 42 = .ok (.irem, 1) := by decide +kernel
theorem dX5_revert_43 : decode cX5_revert 43 = .ok (.iconst 1, 1) := by decide +kernel
theorem dX5_revert_44 : decode cX5_revert 44 = .ok (.isub, 1) := by decide +kernel
theorem dX5_revert_45 : decode cX5_revert 45 = .ok (.istore_n 3, 1) := by decide +kernel
theorem dX5_revert_46 : decode cX5_revert 46 = .ok (.aload_n 0, 1) := by decide +kernel
theorem dX5_revert_47 : decode cX5_revert 47 = .ok (.getfield 28, 3) := by decide +kernel
theorem dX5_revert_50 : decode cX5_revert 50 = .ok (.iload_n 2, 1) := by decide +kernel
theorem dX5_revert_51 : decode cX5_revert 51 = .ok (.iaload, 1) := by decide +kernel
theorem dX5_revert_52 : decode cX5_revert 52 = .ok (.iconst 2, 1) := by decide +kernel
theorem dX5_revert_53 : decode cX5_revert 53 = .ok (.if_icmp .lt 28, 3) := by decide +kernel
theorem dX5_revert_56 : decode cX5_revert 56 = .ok (.iload_n 3, 1) := by decide +kernel
theorem dX5_revert_57 : decode cX5_revert 57 = .ok (.iconst (-1), 1) := by decide +kernel
theorem dX5_revert_58 : decode cX5_revert 58 = .ok (.if_icmp .eq 23, 3) := by decide +kernel
theorem dX5_revert_61 : decode cX5_revert 61 = .ok (.iload_n 3, 1) := by decide +kernel
theorem dX5_revert_62 : decode cX5_revert 62 = .ok (.iload_n 1, 1) := by decide +kernel
theorem dX5_revert_63 : decode cX5_revert 63 = .ok (.if_icmp .eq 18, 3) := by decide +kernel
theorem dX5_revert_66 : decode cX5_revert 66 = .ok (.aload_n 0, 1) := by decide +kernel
theorem dX5_revert_67 : decode cX5_revert 67 = .ok (.getfield 7, 3) := by decide +kernel
theorem dX5_revert_70 : decode cX5_revert 70 = .ok (.iload_n 1, 1) := by decide +kernel
theorem dX5_revert_71 : decode cX5_revert 71 = .ok (.iaload, 1) := by decide +kernel
theorem dX5_revert_72 : decode cX5_revert 72 = .ok (.aload_n 0, 1) := by decide +kernel
theorem dX5_revert_73 : decode cX5_revert 73 = .ok (.getfield 7, 3) := by decide +kernel
theorem dX5_revert_76 : decode cX5_revert 76 = .ok (.iload_n 3, 1) := by decide +kernel
theorem dX5_revert_77 : decode cX5_revert 77 = .ok (.iaload, 1) := by decide +kernel
theorem dX5_revert_78 : decode cX5_revert 78 = .ok (.if_icmp .gt 9, 3) := by decide +kernel
theorem dX5_revert_81 : decode cX5_revert 81 = .ok (.aload_n 0, 1) := by decide +kernel
theorem dX5_revert_82 : decode cX5_revert 82 = .ok (.iconst 2, 1) := by decide +kernel
theorem dX5_revert_83 : decode cX5_revert 83 = .ok (.invokevirtual 87, 3) := by decide +kernel
theorem dX5_revert_86 : decode cX5_revert 86 = .ok (.ireturn, 1) := by decide +kernel
theorem dX5_revert_87 : decode cX5_revert 87 = .ok (.aload_n 0, 1) := by decide +kernel
theorem dX5_revert_88 : decode cX5_revert 88 = .ok (.getfield 37, 3) := by decide +kernel
theorem dX5_revert_91 : decode cX5_revert 91 = .ok (.aload_n 0, 1) := by decide +kernel
theorem dX5_revert_92 : decode cX5_revert 92 = .ok (.getfield 40, 3) := by decide +kernel
theorem dX5_revert_95 : decode cX5_revert 95 = .ok (.aload_n 0, 1) := by decide +kernel
theorem dX5_revert_96 : decode cX5_revert 96 = .ok (.getfield 31, 3) := by decide +kernel
theorem dX5_revert_99 : decode cX5_revert 99 = .ok (.iload_n 2, 1) := by decide +kernel
theorem dX5_revert_100 : decode cX5_revert 100 = .ok (.iaload, 1) := by decide +kernel
theorem dX5_revert_101 : decode cX5_revert 101 = .ok (.iaload, 1) := by decide +kernel
theorem dX5_revert_102 : decode cX5_revert 102 = .ok (.iaload, 1) := by decide +kernel
theorem dX5_revert_103 : decode cX5_revert 103 = .ok (.istore 4, 2) := by decide +kernel
theorem dX5_revert_105 : decode cX5_revert 105 = .ok (.aload_n 0, 1) := by decide +kernel
theorem dX5_revert_106 : decode cX5_revert 106 = .ok (.iload_n 2, 1) := by decide +kernel
theorem dX5_revert_107 : decode cX5_revert 107 = .ok (.iload 4, 2) := by decide +kernel
theorem dX5_revert_109 : decode cX5_revert 109 = .ok (.sipush 1000, 3) := by decide +kernel
theorem dX5_revert_112 : decode cX5_revert 112 = .ok (.irem, 1) := by decide +kernel
theorem dX5_revert_113 : decode cX5_revert 113 = .ok (.bipush 100, 2) := by decide +kernel
theorem dX5_revert_115 : decode cX5_revert 115 = .ok (.idiv, 1) := by decide +kernel
theorem dX5_revert_116 : decode cX5_revert 116 = .ok (.iload 4, 2) := by decide +kernel
theorem dX5_revert_118 : decode cX5_revert 118 = .ok (.bipush 100, 2) := by decide +kernel
theorem dX5_revert_120 : decode cX5_revert 120 = .ok (.irem, 1) := by decide +kernel
theorem dX5_revert_121 : decode cX5_revert 121 = .ok (.bipush 10, 2) := by decide +kernel
theorem dX5_revert_123 : decode cX5_revert 123 = .ok (.idiv, 1) := by decide +kernel
theorem dX5_revert_124 : decode cX5_revert 124 = .ok (.iload_n 1, 1) := by decide +kernel
theorem dX5_revert_125 : decode cX5_revert 125 = .ok (.invokevirtual 91, 3) := by decide +kernel
theorem dX5_revert_128 : decode cX5_revert 128 = .ok (.aload_n 0, 1) := by decide +kernel
theorem dX5_revert_129 : decode cX5_revert 129 = .ok (.iload_n 3, 1) := by decide +kernel
theorem dX5_revert_130 : decode cX5_revert 130 = .ok (.bipush (-10), 2) := by decide +kernel
theorem dX5_revert_132 : decode cX5_revert 132 = .ok (.invokevirtual 104, 3) := by decide +kernel
theorem dX5_revert_135 : decode cX5_revert 135 = .ok (.aload_n 0, 1) := by decide +kernel
theorem dX5_revert_136 : decode cX5_revert 136 = .ok (.getfield 7, 3) := by decide +kernel
theorem dX5_revert_139 : decode cX5_revert 139 = .ok (.iload_n 3, 1) := by decide +kernel
theorem dX5_revert_140 : decode cX5_revert 140 = .ok (.iaload, 1) := by decide +kernel
theorem dX5_revert_141 : decode cX5_revert 141 = .ok (.ireturn, 1) := by decide +kernel
theorem dX5_sightings_0 : decode cX5_sightings 0 = .ok (.aload_n 0, 1) := by decide +kernel
theorem dX5_sightings_1 : decode cX5_sightings 1 = .ok (.aload_n 0, 1) := by decide +kernel
theorem dX5_sightings_2 : decode cX5_sightings 2 = .ok (.iload_n 1, 1) := by decide +kernel
theorem dX5_sightings_3 : decode cX5_sightings 3 = .ok (.invokevirtual 95, 3) := by decide +kernel
theorem dX5_sightings_6 : decode cX5_sightings 6 = .ok (.invokevirtual 83, 3) := by decide +kernel
theorem dX5_sightings_9 : decode cX5_sightings 9 = .ok (.ifCond .eq 12, 3) := by decide +kernel
theorem dX5_sightings_12 : decode cX5_sightings 12 = .ok (.aload_n 0, 1) := by decide +kernel
theorem dX5_sightings_13 : decode cX5_sightings 13 = .ok (.getfield 55, 3) := by decide +kernel
theorem dX5_sightings_16 : decode cX5_sightings 16 = .ok (.iload_n 1, 1) := by decide +kernel
theorem dX5_sightings_17 : decode cX5_sightings 17 = .ok (.iaload, 1) := by decide +kernel
theorem dX5_sightings_18 : decode cX5_sightings 18 = .ok (.goto 4, 3) := by decide +kernel
theorem dX5_sightings_21 : decode cX5_sightings 21 = .ok (.iconst 0, 1) := by decide +kernel
theorem dX5_sightings_22 : decode cX5_sightings 22 = .ok (.ireturn, 1) := by decide +kernel
theorem dX5_trust_0 : decode cX5_trust 0 = .ok (.aload_n 0, 1) := by decide +kernel
theorem dX5_trust_1 : decode cX5_trust 1 = .ok (.iload_n 1, 1) := by decide +kernel
theorem dX5_trust_2 : decode cX5_trust 2 = .ok (.invokestatic 75, 3) := by decide +kernel
theorem dX5_trust_5 : decode cX5_trust 5 = .ok (.invokevirtual 83, 3) := by decide +kernel
theorem dX5_trust_8 : decode cX5_trust 8 = .ok (.ifCond .eq 12, 3) := by decide +kernel
theorem dX5_trust_11 : decode cX5_trust 11 = .ok (.aload_n 0, 1) := by decide +kernel
theorem dX5_trust_12 : decode cX5_trust 12 = .ok (.getfield 7, 3) := by decide +kernel
theorem dX5_trust_15 : decode cX5_trust 15 = .ok (.iload_n 1, 1) := by decide +kernel
theorem dX5_trust_16 : decode cX5_trust 16 = .ok (.iaload, 1) := by decide +kernel
theorem dX5_trust_17 : decode cX5_trust 17 = .ok (.goto 4, 3) := by decide +kernel
theorem dX5_trust_20 : decode cX5_trust 20 = .ok (.iconst 0, 1) := by decide +kernel
theorem dX5_trust_21 : decode cX5_trust 21 = .ok (.ireturn, 1) := by decide +kernel
theorem dX5_versions_0 : decode cX5_versions 0 = .ok (.aload_n 0, 1) := by decide +kernel
theorem dX5_versions_1 : decode cX5_versions 1 = .ok (.aload_n 0, 1) := by decide +kernel
theorem dX5_versions_2 : decode cX5_versions 2 = .ok (.iload_n 1, 1) := by decide +kernel
theorem dX5_versions_3 : decode cX5_versions 3 = .ok (.invokevirtual 95, 3) := by decide +kernel
theorem dX5_versions_6 : decode cX5_versions 6 = .ok (.invokevirtual 83, 3) := by decide +kernel
theorem dX5_versions_9 : decode cX5_versions 9 = .ok (.ifCond .eq 12, 3) := by decide +kernel
theorem dX5_versions_12 : decode cX5_versions 12 = .ok (.aload_n 0, 1) := by decide +kernel
theorem dX5_versions_13 : decode cX5_versions 13 = .ok (.getfield 28, 3) := by decide +kernel
theorem dX5_versions_16 : decode cX5_versions 16 = .ok (.iload_n 1, 1) := by decide +kernel
theorem dX5_versions_17 : decode cX5_versions 17 = .ok (.iaload, 1) := by decide +kernel
theorem dX5_versions_18 : decode cX5_versions 18 = .ok (.goto 4, 3) := by decide +kernel
theorem dX5_versions_21 : decode cX5_versions 21 = .ok (.iconst 0, 1) := by decide +kernel
theorem dX5_versions_22 : decode cX5_versions 22 = .ok (.ireturn, 1) := by decide +kernel
theorem dX5_waiting_0 : decode cX5_waiting 0 = .ok (.aload_n 0, 1) := by decide +kernel
theorem dX5_waiting_1 : decode cX5_waiting 1 = .ok (.aload_n 0, 1) := by decide +kernel
theorem dX5_waiting_2 : decode cX5_waiting 2 = .ok (.iload_n 1, 1) := by decide +kernel
theorem dX5_waiting_3 : decode cX5_waiting 3 = .ok (.invokevirtual 95, 3) := by decide +kernel
theorem dX5_waiting_6 : decode cX5_waiting 6 = .ok (.invokevirtual 83, 3) := by decide +kernel
theorem dX5_waiting_9 : decode cX5_waiting 9 = .ok (.ifCond .eq 12, 3) := by decide +kernel
theorem dX5_waiting_12 : decode cX5_waiting 12 = .ok (.aload_n 0, 1) := by decide +kernel
theorem dX5_waiting_13 : decode cX5_waiting 13 = .ok (.getfield 34, 3) := by decide +kernel
theorem dX5_waiting_16 : decode cX5_waiting 16 = .ok (.iload_n 1, 1) := by decide +kernel
theorem dX5_waiting_17 : decode cX5_waiting 17 = .ok (.iaload, 1) := by decide +kernel
theorem dX5_waiting_18 : decode cX5_waiting 18 = .ok (.goto 4, 3) := by decide +kernel
theorem dX5_waiting_21 : decode cX5_waiting 21 = .ok (.iconst 0, 1) := by decide +kernel
theorem dX5_waiting_22 : decode cX5_waiting 22 = .ok (.ireturn, 1) := by decide +kernel
theorem ke_X5_judge : wl_V RX5 yX5_judge cX5_judge 6 (some .int) 3 := ⟨wd_c_X5_judge, wd_i_X5_judge, wd_s_X5_judge, wd_n_X5, by decide, by decide +kernel⟩
set_option maxHeartbeats 4000000 in
set_option maxRecDepth 100000 in
theorem m_X5_judge (l : Launch) (D : va_G) (cI : ClassId) (o : Nat) (a : Nat → Nat) (mm : q_Mem) (hMD : mo_D o a) (x y z : Int32) (ref : Prop) [Decidable ref] (hz : z = if ref then 1 else 0) (hI : Inv mm) : mo_Ci l yX5_judge cX5_judge 6 (some .int) 1 24 D cI o a mm [.int x, .int y, .int z] (fun r m1 => (r, m1) = sp_judge mm x y ref) := by
  refine mo_ofQ (by decide) (Nat.le_of_ble_eq_true rfl) ?_
  intro p e s m args below meth c hx hb hr hF hlk hM hK hS ls hl
  have hA : ∀ q, mo_R o a q → mo_R o a q := fun _ h => h
  have hl : lv_has ls 6 [(0, .ref o), (1, .int x), (2, .int y), (3, .int z)] := hl
  have hf : (0 : Nat) ≤ 0 ∧ (0 : Nat) ≤ 0 := ⟨Nat.le_refl 0, Nat.le_refl 0⟩
  refine lv_aload_n hx hb dX5_judge_0 rfl (lv_at hl 0 rfl) ?_
  refine bo_cut (ls := ls) (tgt := 21) (E := if sp_ed x ∧ sp_wy mm y then 1 else 0) (rest := [.ref o]) (fun va eva => ?_) (fun J21 => ?_)
  · skip
    refine mo_iV (fr := 0) (lo := 0) (As := [.int va]) (rest := []) hF (m_X5_asks l D cI o a mm hMD va (sp_ed x ∧ sp_wy mm y) eva) ke_X5_asks wd_l_X5_83 (by decide) hK hM hS hA rfl hl.1 rfl (Nat.le_of_ble_eq_true rfl) dX5_judge_21 hf (fun r2 mm3 H locs hr2 hM hS _ _ => ?_)
    obtain ⟨hr2, hmm3⟩ := hr2
    subst hmm3
    have hbr2 := hr2.trans eva
    refine bo_ne (tgt := 29) hbr2 hx hb dX5_judge_24 (by decide) (fun cP => ?_) (fun cP => ?_)
    · skip
      rw [if_pos cP] at hM
      have hW40 := hI.W40
      have hKK := hI.K512
      obtain ⟨fi, hf6, rfl⟩ := nt_ed cP.1
      obtain ⟨wi, hwi, rfl⟩ := nt_wy hI cP.2
      have hL := hI.L hwi
      have hL4 := hI.L4200 hwi
      have hJ : sp_judge mm (nI fi) (nI wi) ref = sp_judge0 (up2 mm 19 0 0) fi wi ref := by rw [sp_judge, if_pos cP, nt_c (by omega), nt_c (by omega)]
      refine lv_aload_n hx hb dX5_judge_29 rfl (lv_at hl 0 rfl) ?_
      refine mo_get hF hK hM 9 (by decide) wd_f_X5_34 rfl dX5_judge_30 ?_
      refine lv_iload_n hx hb dX5_judge_33 rfl (lv_at hl 2 rfl) ?_
      refine mo_ald hF hK hM 9 wi (by decide) rfl (show wi < 40 by omega) dX5_judge_34 ?_
      refine bo_to (v := (mm 9 wi)) (up2_c (by decide)) ?_
      refine lv_istore (lv' := [(4, .int (mm 9 wi)), (0, .ref o), (1, .int (nI fi)), (2, .int (nI wi)), (3, .int z)]) hx hb dX5_judge_35 hl (by decide) rfl (fun ls hl => ?_)
      refine lv_iload hx hb dX5_judge_37 (lv_at hl 0 rfl) ?_
      refine lv_bipush (v := 10) hx hb dX5_judge_39 (by decide) ?_
      refine lv_irem hx hb dX5_judge_41 (by decide) ?_
      refine lv_iconst (v := 1) hx hb dX5_judge_42 (by decide) ?_
      refine lv_isub hx hb dX5_judge_43 ?_
      refine bo_to (v := (sp_ve (mm 9 wi))) (rfl) ?_
      refine lv_istore (lv' := [(5, .int (sp_ve (mm 9 wi))), (4, .int (mm 9 wi)), (0, .ref o), (1, .int (nI fi)), (2, .int (nI wi)), (3, .int z)]) hx hb dX5_judge_44 hl (by decide) rfl (fun ls hl => ?_)
      refine lv_iload hx hb dX5_judge_46 (lv_at hl 1 rfl) ?_
      refine lv_iconst (v := (-1)) hx hb dX5_judge_48 (by decide) ?_
      refine lv_icmp_eq (tgt := 73) hx hb dX5_judge_49 (by decide) (fun c3 => ?_) (fun c3 => ?_)
      · skip
        have hC : ¬ (¬ mm 9 wi = -1 ∧ ¬ sp_ve (mm 9 wi) = nI fi ∧ mm 6 wi ≤ mm 0 fi) := fun q => q.1 c3
        refine lv_aload_n hx hb dX5_judge_73 rfl (lv_at hl 2 rfl) ?_
        refine lv_iconst (v := 2) hx hb dX5_judge_74 (by decide) ?_
        refine mo_iV (fr := 0) (lo := 0) (As := [.int 2]) (rest := []) hF (m_X5_fails l D cI o a (up2 mm 19 0 0) hMD 2) ke_X5_fails wd_l_X5_87 (by decide) hK hM hS hA rfl hl.1 rfl (Nat.le_of_ble_eq_true rfl) dX5_judge_75 hf (fun r4 mm5 H locs hr4 hM hS _ _ => ?_)
        obtain ⟨hr4, hmm5⟩ := hr4
        subst hmm5
        replace hr4 : r4 = 0 := hr4
        subst hr4
        exact mo_iret hx hb hr hlk hK hM hS (by rw [hJ, sp_judge_no hC]) dX5_judge_78
      · skip
        refine lv_iload hx hb dX5_judge_52 (lv_at hl 0 rfl) ?_
        refine lv_iload_n hx hb dX5_judge_54 rfl (lv_at hl 3 rfl) ?_
        refine lv_icmp_eq (tgt := 73) hx hb dX5_judge_55 (by decide) (fun c4 => ?_) (fun c4 => ?_)
        · skip
          have hC : ¬ (¬ mm 9 wi = -1 ∧ ¬ sp_ve (mm 9 wi) = nI fi ∧ mm 6 wi ≤ mm 0 fi) := fun q => q.2.1 c4
          refine lv_aload_n hx hb dX5_judge_73 rfl (lv_at hl 2 rfl) ?_
          refine lv_iconst (v := 2) hx hb dX5_judge_74 (by decide) ?_
          refine mo_iV (fr := 0) (lo := 0) (As := [.int 2]) (rest := []) hF (m_X5_fails l D cI o a (up2 mm 19 0 0) hMD 2) ke_X5_fails wd_l_X5_87 (by decide) hK hM hS hA rfl hl.1 rfl (Nat.le_of_ble_eq_true rfl) dX5_judge_75 hf (fun r6 mm7 H locs hr6 hM hS _ _ => ?_)
          obtain ⟨hr6, hmm7⟩ := hr6
          subst hmm7
          replace hr6 : r6 = 0 := hr6
          subst hr6
          exact mo_iret hx hb hr hlk hK hM hS (by rw [hJ, sp_judge_no hC]) dX5_judge_78
        · skip
          refine lv_aload_n hx hb dX5_judge_58 rfl (lv_at hl 2 rfl) ?_
          refine mo_get hF hK hM 0 (by decide) wd_f_X5_7 rfl dX5_judge_59 ?_
          refine lv_iload_n hx hb dX5_judge_62 rfl (lv_at hl 3 rfl) ?_
          refine mo_ald hF hK hM 0 fi (by decide) rfl (by exact hf6) dX5_judge_63 ?_
          refine bo_to (v := (mm 0 fi)) (up2_c (by decide)) ?_
          refine lv_aload_n hx hb dX5_judge_64 rfl (lv_at hl 2 rfl) ?_
          refine mo_get hF hK hM 6 (by decide) wd_f_X5_25 rfl dX5_judge_65 ?_
          refine lv_iload_n hx hb dX5_judge_68 rfl (lv_at hl 4 rfl) ?_
          refine mo_ald hF hK hM 6 wi (by decide) rfl (show wi < 40 by omega) dX5_judge_69 ?_
          refine bo_to (v := (mm 6 wi)) (up2_c (by decide)) ?_
          refine lv_icmp_ge (tgt := 79) hx hb dX5_judge_70 (by decide) (fun c5 => ?_) (fun c5 => ?_)
          · skip
            have hC : (¬ mm 9 wi = -1 ∧ ¬ sp_ve (mm 9 wi) = nI fi ∧ mm 6 wi ≤ mm 0 fi) := ⟨c3, c4, c5⟩
            obtain ⟨gi, hg6, hg⟩ := nt_q (hI.Q hwi) c3
            have hgn : (sp_ve (mm 9 wi)).toNatClampNeg = gi := by rw [hg]; exact nt_c (by omega)
            refine lv_iload_n hx hb dX5_judge_79 rfl (lv_at hl 5 rfl) ?_
            refine bo_eq (tgt := 101) hz hx hb dX5_judge_80 (by decide) (fun c6 => ?_) (fun c6 => ?_)
            · skip
              refine lv_aload_n hx hb dX5_judge_101 rfl (lv_at hl 2 rfl) ?_
              refine lv_iload_n hx hb dX5_judge_102 rfl (lv_at hl 4 rfl) ?_
              refine lv_iload hx hb dX5_judge_103 (lv_at hl 1 rfl) ?_
              refine lv_bipush (v := 100) hx hb dX5_judge_105 (by decide) ?_
              refine lv_idiv hx hb dX5_judge_107 (by decide) ?_
              refine lv_iload hx hb dX5_judge_108 (lv_at hl 1 rfl) ?_
              refine lv_bipush (v := 100) hx hb dX5_judge_110 (by decide) ?_
              refine lv_irem hx hb dX5_judge_112 (by decide) ?_
              refine lv_bipush (v := 10) hx hb dX5_judge_113 (by decide) ?_
              refine lv_idiv hx hb dX5_judge_115 (by decide) ?_
              refine bo_to (v := (sp_vd (mm 9 wi))) (rfl) ?_
              refine lv_iload hx hb dX5_judge_116 (lv_at hl 0 rfl) ?_
              refine mo_vV (fr := 0) (lo := 0) (As := [.int (nI wi), .int ((mm 9 wi) / 100), .int (sp_vd (mm 9 wi)), .int (sp_ve (mm 9 wi))]) (rest := []) hF (m_X5_makes l D cI o a (up2 mm 19 0 0) hMD wi ((mm 9 wi) / 100) (sp_vd (mm 9 wi)) (sp_ve (mm 9 wi)) (by omega) hI.K hI.K4200) ke_X5_makes wd_l_X5_91 (by decide) hK hM hS hA rfl hl.1 rfl (Nat.le_of_ble_eq_true rfl) dX5_judge_118 hf (fun mm9 H locs hmm9 hM hS => ?_)
              subst hmm9
              refine lv_aload_n hx hb dX5_judge_121 rfl (lv_at hl 2 rfl) ?_
              refine lv_iload hx hb dX5_judge_122 (lv_at hl 0 rfl) ?_
              refine bo_to (v := (nI gi)) (hg) ?_
              refine lv_iconst (v := 5) hx hb dX5_judge_124 (by decide) ?_
              refine mo_vV (fr := 0) (lo := 0) (As := [.int (nI gi), .int 5]) (rest := []) hF (m_X5_trusts l D cI o a (sp_make (up2 mm 19 0 0) wi ((mm 9 wi) / 100) (sp_vd (mm 9 wi)) (sp_ve (mm 9 wi))) hMD gi 5 hg6) ke_X5_trusts wd_l_X5_104 (by decide) hK hM hS hA rfl hl.1 rfl (Nat.le_of_ble_eq_true rfl) dX5_judge_125 hf (fun mm11 H locs hmm11 hM hS => ?_)
              subst hmm11
              refine lv_aload_n hx hb dX5_judge_128 rfl (lv_at hl 2 rfl) ?_
              refine mo_get hF hK hM 0 (by decide) wd_f_X5_7 rfl dX5_judge_129 ?_
              refine lv_iload hx hb dX5_judge_132 (lv_at hl 0 rfl) ?_
              refine mo_ald hF hK hM 0 gi (by decide) hg (by exact hg6) dX5_judge_134 ?_
              exact mo_iret hx hb hr hlk hK hM hS (by first | (rw [hJ, sp_judge_ref hC c6 hgn]; done) | (rw [hJ, sp_judge_con hC c6 hgn]; done)) dX5_judge_135
            · skip
              refine lv_aload_n hx hb dX5_judge_83 rfl (lv_at hl 2 rfl) ?_
              refine mo_get hF hK hM 9 (by decide) wd_f_X5_34 rfl dX5_judge_84 ?_
              refine lv_iload_n hx hb dX5_judge_87 rfl (lv_at hl 4 rfl) ?_
              refine lv_iconst (v := (-1)) hx hb dX5_judge_88 (by decide) ?_
              refine mo_ast (mm := (up2 mm 19 0 0)) hF hK hM hMD hS hA 9 wi (by decide) rfl (show wi < 40 by omega) dX5_judge_89 (fun H locs hM hS => ?_)
              refine lv_aload_n hx hb dX5_judge_90 rfl (lv_at hl 2 rfl) ?_
              refine lv_iload hx hb dX5_judge_91 (lv_at hl 0 rfl) ?_
              refine bo_to (v := (nI gi)) (hg) ?_
              refine lv_bipush (v := (-5)) hx hb dX5_judge_93 (by decide) ?_
              refine mo_vV (fr := 0) (lo := 0) (As := [.int (nI gi), .int (-5)]) (rest := []) hF (m_X5_trusts l D cI o a (up2 (up2 mm 19 0 0) 9 wi (-1)) hMD gi (-5) hg6) ke_X5_trusts wd_l_X5_104 (by decide) hK hM hS hA rfl hl.1 rfl (Nat.le_of_ble_eq_true rfl) dX5_judge_95 hf (fun mm13 H locs hmm13 hM hS => ?_)
              subst hmm13
              refine lv_goto (tgt := 128) hx hb dX5_judge_98 (by decide) ?_
              refine lv_aload_n hx hb dX5_judge_128 rfl (lv_at hl 2 rfl) ?_
              refine mo_get hF hK hM 0 (by decide) wd_f_X5_7 rfl dX5_judge_129 ?_
              refine lv_iload hx hb dX5_judge_132 (lv_at hl 0 rfl) ?_
              refine mo_ald hF hK hM 0 gi (by decide) hg (by exact hg6) dX5_judge_134 ?_
              exact mo_iret hx hb hr hlk hK hM hS (by first | (rw [hJ, sp_judge_ref hC c6 hgn]; done) | (rw [hJ, sp_judge_con hC c6 hgn]; done)) dX5_judge_135
          · skip
            have hC : ¬ (¬ mm 9 wi = -1 ∧ ¬ sp_ve (mm 9 wi) = nI fi ∧ mm 6 wi ≤ mm 0 fi) := fun q => c5 q.2.2
            refine lv_aload_n hx hb dX5_judge_73 rfl (lv_at hl 2 rfl) ?_
            refine lv_iconst (v := 2) hx hb dX5_judge_74 (by decide) ?_
            refine mo_iV (fr := 0) (lo := 0) (As := [.int 2]) (rest := []) hF (m_X5_fails l D cI o a (up2 mm 19 0 0) hMD 2) ke_X5_fails wd_l_X5_87 (by decide) hK hM hS hA rfl hl.1 rfl (Nat.le_of_ble_eq_true rfl) dX5_judge_75 hf (fun r14 mm15 H locs hr14 hM hS _ _ => ?_)
            obtain ⟨hr14, hmm15⟩ := hr14
            subst hmm15
            replace hr14 : r14 = 0 := hr14
            subst hr14
            exact mo_iret hx hb hr hlk hK hM hS (by rw [hJ, sp_judge_no hC]) dX5_judge_78
    · skip
      rw [if_neg cP] at hM
      refine lv_iconst (v := 0) hx hb dX5_judge_27 (by decide) ?_
      exact mo_iret hx hb hr hlk hK hM hS (by rw [sp_judge, if_neg cP]) dX5_judge_28
  · skip
    refine lv_iload_n hx hb dX5_judge_1 rfl (lv_at hl 1 rfl) ?_
    refine rc_S (fr := 0) (lo := 0) (As := [.int x]) (rest := [.ref o]) hF (m_X5_isEditor l x) ke_X5_isEditor wd_l_X5_75 (by decide) bl_true (fun _ _ _ => trivial) rfl hl.1 rfl (Nat.le_of_ble_eq_true rfl) dX5_judge_2 hf (fun r16 hr16 => ?_)
    refine bo_eq (tgt := 20) hr16 hx hb dX5_judge_5 (by decide) (fun c1 => ?_) (fun c1 => ?_)
    · skip
      refine lv_iconst (v := 0) hx hb dX5_judge_20 (by decide) ?_
      exact J21 _ (by first | exact bo_y c1 c2 | exact bo_n1 c1 | exact bo_n2 c2)
    · skip
      refine lv_aload_n hx hb dX5_judge_8 rfl (lv_at hl 0 rfl) ?_
      refine lv_iload_n hx hb dX5_judge_9 rfl (lv_at hl 2 rfl) ?_
      refine rc_V (fr := 0) (lo := 0) (As := [.int y]) (rest := [.ref o]) hF (m_X5_isWay l D cI o a mm y) ke_X5_isWay wd_l_X5_95 (by decide) mo_blind (fun U hU hv => ⟨by rw [hU]; exact hM, hK.moved hv⟩) (mo_recv hK hM) rfl hl.1 rfl (Nat.le_of_ble_eq_true rfl) dX5_judge_10 hf (fun r17 hr17 => ?_)
      refine bo_eq (tgt := 20) hr17 hx hb dX5_judge_13 (by decide) (fun c2 => ?_) (fun c2 => ?_)
      · skip
        refine lv_iconst (v := 0) hx hb dX5_judge_20 (by decide) ?_
        exact J21 _ (by first | exact bo_y c1 c2 | exact bo_n1 c1 | exact bo_n2 c2)
      · skip
        refine lv_iconst (v := 1) hx hb dX5_judge_16 (by decide) ?_
        refine lv_goto (tgt := 21) hx hb dX5_judge_17 (by decide) ?_
        exact J21 _ (by first | exact bo_y c1 c2 | exact bo_n1 c1 | exact bo_n2 c2)
theorem ke_X5_revert : wl_V RX5 yX5_revert cX5_revert 5 (some .int) 2 := ⟨wd_c_X5_revert, wd_i_X5_revert, wd_s_X5_revert, wd_n_X5, by decide, by decide +kernel⟩
set_option maxHeartbeats 4000000 in
set_option maxRecDepth 100000 in
theorem m_X5_revert (l : Launch) (D : va_G) (cI : ClassId) (o : Nat) (a : Nat → Nat) (mm : q_Mem) (hMD : mo_D o a) (x y : Int32) (hI : Inv mm) : mo_Ci l yX5_revert cX5_revert 5 (some .int) 1 24 D cI o a mm [.int x, .int y] (fun r m1 => (r, m1) = sp_rev mm x y) := by
  refine mo_ofQ (by decide) (Nat.le_of_ble_eq_true rfl) ?_
  intro p e s m args below meth c hx hb hr hF hlk hM hK hS ls hl
  have hA : ∀ q, mo_R o a q → mo_R o a q := fun _ h => h
  have hl : lv_has ls 5 [(0, .ref o), (1, .int x), (2, .int y)] := hl
  have hf : (0 : Nat) ≤ 0 ∧ (0 : Nat) ≤ 0 := ⟨Nat.le_refl 0, Nat.le_refl 0⟩
  refine lv_aload_n hx hb dX5_revert_0 rfl (lv_at hl 0 rfl) ?_
  refine bo_cut (ls := ls) (tgt := 21) (E := if sp_ed x ∧ sp_wy mm y then 1 else 0) (rest := [.ref o]) (fun va eva => ?_) (fun J21 => ?_)
  · skip
    refine mo_iV (fr := 0) (lo := 0) (As := [.int va]) (rest := []) hF (m_X5_asks l D cI o a mm hMD va (sp_ed x ∧ sp_wy mm y) eva) ke_X5_asks wd_l_X5_83 (by decide) hK hM hS hA rfl hl.1 rfl (Nat.le_of_ble_eq_true rfl) dX5_revert_21 hf (fun r2 mm3 H locs hr2 hM hS _ _ => ?_)
    obtain ⟨hr2, hmm3⟩ := hr2
    subst hmm3
    have hbr2 := hr2.trans eva
    refine bo_ne (tgt := 29) hbr2 hx hb dX5_revert_24 (by decide) (fun cP => ?_) (fun cP => ?_)
    · skip
      rw [if_pos cP] at hM
      have hW40 := hI.W40
      have hKK := hI.K512
      obtain ⟨fi, hf6, rfl⟩ := nt_ed cP.1
      obtain ⟨wi, hwi, rfl⟩ := nt_wy hI cP.2
      have hL := hI.L hwi
      have hL4 := hI.L4200 hwi
      have hJ : sp_rev mm (nI fi) (nI wi) = sp_rev0 (up2 mm 19 0 0) fi wi := by rw [sp_rev, if_pos cP, nt_c (by omega), nt_c (by omega)]
      refine lv_aload_n hx hb dX5_revert_29 rfl (lv_at hl 0 rfl) ?_
      refine mo_get hF hK hM 11 (by decide) wd_f_X5_37 rfl dX5_revert_30 ?_
      refine lv_aload_n hx hb dX5_revert_33 rfl (lv_at hl 0 rfl) ?_
      refine mo_get hF hK hM 8 (by decide) wd_f_X5_31 rfl dX5_revert_34 ?_
      refine lv_iload_n hx hb dX5_revert_37 rfl (lv_at hl 2 rfl) ?_
      refine mo_ald hF hK hM 8 wi (by decide) rfl (show wi < 40 by omega) dX5_revert_38 ?_
      refine bo_to (v := (mm 8 wi)) (up2_c (by decide)) ?_
      refine mo_ald hF hK hM 11 (sp_L mm wi) (by decide) hL (by exact hL4) dX5_revert_39 ?_
      refine bo_to (v := (mm 11 (sp_L mm wi))) (up2_c (by decide)) ?_
      refine lv_bipush (v := 10) hx hb dX5_revert_40 (by decide) ?_
      refine lv_irem hx hb dX5_revert_42 (by decide) ?_
      refine lv_iconst (v := 1) hx hb dX5_revert_43 (by decide) ?_
      refine lv_isub hx hb dX5_revert_44 ?_
      refine bo_to (v := (sp_ve (mm 11 (sp_L mm wi)))) (rfl) ?_
      refine lv_istore_n (lv' := [(3, .int (sp_ve (mm 11 (sp_L mm wi)))), (0, .ref o), (1, .int (nI fi)), (2, .int (nI wi))]) hx hb dX5_revert_45 rfl hl (by decide) rfl (fun ls hl => ?_)
      refine lv_aload_n hx hb dX5_revert_46 rfl (lv_at hl 1 rfl) ?_
      refine mo_get hF hK hM 7 (by decide) wd_f_X5_28 rfl dX5_revert_47 ?_
      refine lv_iload_n hx hb dX5_revert_50 rfl (lv_at hl 3 rfl) ?_
      refine mo_ald hF hK hM 7 wi (by decide) rfl (show wi < 40 by omega) dX5_revert_51 ?_
      refine bo_to (v := (mm 7 wi)) (up2_c (by decide)) ?_
      refine lv_iconst (v := 2) hx hb dX5_revert_52 (by decide) ?_
      refine lv_icmp_lt (tgt := 81) hx hb dX5_revert_53 (by decide) (fun c3 => ?_) (fun c3 => ?_)
      · skip
        have hC : ¬ (¬ mm 7 wi < 2 ∧ ¬ sp_ve (mm 11 (sp_L mm wi)) = -1 ∧ ¬ sp_ve (mm 11 (sp_L mm wi)) = nI fi ∧ mm 0 (sp_ve (mm 11 (sp_L mm wi))).toNatClampNeg < mm 0 fi) := fun q => q.1 c3
        refine lv_aload_n hx hb dX5_revert_81 rfl (lv_at hl 1 rfl) ?_
        refine lv_iconst (v := 2) hx hb dX5_revert_82 (by decide) ?_
        refine mo_iV (fr := 0) (lo := 0) (As := [.int 2]) (rest := []) hF (m_X5_fails l D cI o a (up2 mm 19 0 0) hMD 2) ke_X5_fails wd_l_X5_87 (by decide) hK hM hS hA rfl hl.1 rfl (Nat.le_of_ble_eq_true rfl) dX5_revert_83 hf (fun r4 mm5 H locs hr4 hM hS _ _ => ?_)
        obtain ⟨hr4, hmm5⟩ := hr4
        subst hmm5
        replace hr4 : r4 = 0 := hr4
        subst hr4
        exact mo_iret hx hb hr hlk hK hM hS (by rw [hJ, sp_rev_no hC]) dX5_revert_86
      · skip
        refine lv_iload_n hx hb dX5_revert_56 rfl (lv_at hl 0 rfl) ?_
        refine lv_iconst (v := (-1)) hx hb dX5_revert_57 (by decide) ?_
        refine lv_icmp_eq (tgt := 81) hx hb dX5_revert_58 (by decide) (fun c4 => ?_) (fun c4 => ?_)
        · skip
          have hC : ¬ (¬ mm 7 wi < 2 ∧ ¬ sp_ve (mm 11 (sp_L mm wi)) = -1 ∧ ¬ sp_ve (mm 11 (sp_L mm wi)) = nI fi ∧ mm 0 (sp_ve (mm 11 (sp_L mm wi))).toNatClampNeg < mm 0 fi) := fun q => q.2.1 c4
          refine lv_aload_n hx hb dX5_revert_81 rfl (lv_at hl 1 rfl) ?_
          refine lv_iconst (v := 2) hx hb dX5_revert_82 (by decide) ?_
          refine mo_iV (fr := 0) (lo := 0) (As := [.int 2]) (rest := []) hF (m_X5_fails l D cI o a (up2 mm 19 0 0) hMD 2) ke_X5_fails wd_l_X5_87 (by decide) hK hM hS hA rfl hl.1 rfl (Nat.le_of_ble_eq_true rfl) dX5_revert_83 hf (fun r6 mm7 H locs hr6 hM hS _ _ => ?_)
          obtain ⟨hr6, hmm7⟩ := hr6
          subst hmm7
          replace hr6 : r6 = 0 := hr6
          subst hr6
          exact mo_iret hx hb hr hlk hK hM hS (by rw [hJ, sp_rev_no hC]) dX5_revert_86
        · skip
          obtain ⟨gi, hg6, hg⟩ := nt_v (hI.V (hI.LK hwi)) hW40 c4
          have hgn : (sp_ve (mm 11 (sp_L mm wi))).toNatClampNeg = gi := by rw [hg]; exact nt_c (by omega)
          refine lv_iload_n hx hb dX5_revert_61 rfl (lv_at hl 0 rfl) ?_
          refine lv_iload_n hx hb dX5_revert_62 rfl (lv_at hl 2 rfl) ?_
          refine lv_icmp_eq (tgt := 81) hx hb dX5_revert_63 (by decide) (fun c5 => ?_) (fun c5 => ?_)
          · skip
            have hC : ¬ (¬ mm 7 wi < 2 ∧ ¬ sp_ve (mm 11 (sp_L mm wi)) = -1 ∧ ¬ sp_ve (mm 11 (sp_L mm wi)) = nI fi ∧ mm 0 (sp_ve (mm 11 (sp_L mm wi))).toNatClampNeg < mm 0 fi) := fun q => q.2.2.1 c5
            refine lv_aload_n hx hb dX5_revert_81 rfl (lv_at hl 1 rfl) ?_
            refine lv_iconst (v := 2) hx hb dX5_revert_82 (by decide) ?_
            refine mo_iV (fr := 0) (lo := 0) (As := [.int 2]) (rest := []) hF (m_X5_fails l D cI o a (up2 mm 19 0 0) hMD 2) ke_X5_fails wd_l_X5_87 (by decide) hK hM hS hA rfl hl.1 rfl (Nat.le_of_ble_eq_true rfl) dX5_revert_83 hf (fun r8 mm9 H locs hr8 hM hS _ _ => ?_)
            obtain ⟨hr8, hmm9⟩ := hr8
            subst hmm9
            replace hr8 : r8 = 0 := hr8
            subst hr8
            exact mo_iret hx hb hr hlk hK hM hS (by rw [hJ, sp_rev_no hC]) dX5_revert_86
          · skip
            refine lv_aload_n hx hb dX5_revert_66 rfl (lv_at hl 1 rfl) ?_
            refine mo_get hF hK hM 0 (by decide) wd_f_X5_7 rfl dX5_revert_67 ?_
            refine lv_iload_n hx hb dX5_revert_70 rfl (lv_at hl 2 rfl) ?_
            refine mo_ald hF hK hM 0 fi (by decide) rfl (by exact hf6) dX5_revert_71 ?_
            refine bo_to (v := (mm 0 fi)) (up2_c (by decide)) ?_
            refine lv_aload_n hx hb dX5_revert_72 rfl (lv_at hl 1 rfl) ?_
            refine mo_get hF hK hM 0 (by decide) wd_f_X5_7 rfl dX5_revert_73 ?_
            refine lv_iload_n hx hb dX5_revert_76 rfl (lv_at hl 0 rfl) ?_
            refine mo_ald hF hK hM 0 gi (by decide) hg (by exact hg6) dX5_revert_77 ?_
            refine bo_to (v := (mm 0 gi)) (up2_c (by decide)) ?_
            refine lv_icmp_gt (tgt := 87) hx hb dX5_revert_78 (by decide) (fun c6 => ?_) (fun c6 => ?_)
            · skip
              have hC : (¬ mm 7 wi < 2 ∧ ¬ sp_ve (mm 11 (sp_L mm wi)) = -1 ∧ ¬ sp_ve (mm 11 (sp_L mm wi)) = nI fi ∧ mm 0 (sp_ve (mm 11 (sp_L mm wi))).toNatClampNeg < mm 0 fi) := ⟨c3, c4, c5, by rw [hgn]; exact c6⟩
              obtain ⟨hA1, hA2⟩ := hI.AL hwi c3
              refine lv_aload_n hx hb dX5_revert_87 rfl (lv_at hl 1 rfl) ?_
              refine mo_get hF hK hM 11 (by decide) wd_f_X5_37 rfl dX5_revert_88 ?_
              refine lv_aload_n hx hb dX5_revert_91 rfl (lv_at hl 1 rfl) ?_
              refine mo_get hF hK hM 12 (by decide) wd_f_X5_40 rfl dX5_revert_92 ?_
              refine lv_aload_n hx hb dX5_revert_95 rfl (lv_at hl 1 rfl) ?_
              refine mo_get hF hK hM 8 (by decide) wd_f_X5_31 rfl dX5_revert_96 ?_
              refine lv_iload_n hx hb dX5_revert_99 rfl (lv_at hl 3 rfl) ?_
              refine mo_ald hF hK hM 8 wi (by decide) rfl (show wi < 40 by omega) dX5_revert_100 ?_
              refine bo_to (v := (mm 8 wi)) (up2_c (by decide)) ?_
              refine mo_ald hF hK hM 12 (sp_L mm wi) (by decide) hL (by exact hL4) dX5_revert_101 ?_
              refine bo_to (v := (mm 12 (sp_L mm wi))) (up2_c (by decide)) ?_
              refine mo_ald hF hK hM 11 (sp_A mm (sp_L mm wi)) (by decide) hA1 (by exact hA2) dX5_revert_102 ?_
              refine bo_to (v := (mm 11 (sp_A mm (sp_L mm wi)))) (up2_c (by decide)) ?_
              refine lv_istore (lv' := [(4, .int (mm 11 (sp_A mm (sp_L mm wi)))), (3, .int (sp_ve (mm 11 (sp_L mm wi)))), (0, .ref o), (1, .int (nI fi)), (2, .int (nI wi))]) hx hb dX5_revert_103 hl (by decide) rfl (fun ls hl => ?_)
              refine lv_aload_n hx hb dX5_revert_105 rfl (lv_at hl 2 rfl) ?_
              refine lv_iload_n hx hb dX5_revert_106 rfl (lv_at hl 4 rfl) ?_
              refine lv_iload hx hb dX5_revert_107 (lv_at hl 0 rfl) ?_
              refine lv_sipush (v := 1000) hx hb dX5_revert_109 (by decide) ?_
              refine lv_irem hx hb dX5_revert_112 (by decide) ?_
              refine lv_bipush (v := 100) hx hb dX5_revert_113 (by decide) ?_
              refine lv_idiv hx hb dX5_revert_115 (by decide) ?_
              refine bo_to (v := (sp_vk (mm 11 (sp_A mm (sp_L mm wi))))) (rfl) ?_
              refine lv_iload hx hb dX5_revert_116 (lv_at hl 0 rfl) ?_
              refine lv_bipush (v := 100) hx hb dX5_revert_118 (by decide) ?_
              refine lv_irem hx hb dX5_revert_120 (by decide) ?_
              refine lv_bipush (v := 10) hx hb dX5_revert_121 (by decide) ?_
              refine lv_idiv hx hb dX5_revert_123 (by decide) ?_
              refine bo_to (v := (sp_vd (mm 11 (sp_A mm (sp_L mm wi))))) (rfl) ?_
              refine lv_iload_n hx hb dX5_revert_124 rfl (lv_at hl 3 rfl) ?_
              refine mo_vV (fr := 0) (lo := 0) (As := [.int (nI wi), .int (sp_vk (mm 11 (sp_A mm (sp_L mm wi)))), .int (sp_vd (mm 11 (sp_A mm (sp_L mm wi)))), .int (nI fi)]) (rest := []) hF (m_X5_makes l D cI o a (up2 mm 19 0 0) hMD wi (sp_vk (mm 11 (sp_A mm (sp_L mm wi)))) (sp_vd (mm 11 (sp_A mm (sp_L mm wi)))) (nI fi) (by omega) hI.K hI.K4200) ke_X5_makes wd_l_X5_91 (by decide) hK hM hS hA rfl hl.1 rfl (Nat.le_of_ble_eq_true rfl) dX5_revert_125 hf (fun mm11 H locs hmm11 hM hS => ?_)
              subst hmm11
              refine lv_aload_n hx hb dX5_revert_128 rfl (lv_at hl 2 rfl) ?_
              refine lv_iload_n hx hb dX5_revert_129 rfl (lv_at hl 1 rfl) ?_
              refine bo_to (v := (nI gi)) (hg) ?_
              refine lv_bipush (v := (-10)) hx hb dX5_revert_130 (by decide) ?_
              refine mo_vV (fr := 0) (lo := 0) (As := [.int (nI gi), .int (-10)]) (rest := []) hF (m_X5_trusts l D cI o a (sp_make (up2 mm 19 0 0) wi (sp_vk (mm 11 (sp_A mm (sp_L mm wi)))) (sp_vd (mm 11 (sp_A mm (sp_L mm wi)))) (nI fi)) hMD gi (-10) hg6) ke_X5_trusts wd_l_X5_104 (by decide) hK hM hS hA rfl hl.1 rfl (Nat.le_of_ble_eq_true rfl) dX5_revert_132 hf (fun mm13 H locs hmm13 hM hS => ?_)
              subst hmm13
              refine lv_aload_n hx hb dX5_revert_135 rfl (lv_at hl 2 rfl) ?_
              refine mo_get hF hK hM 0 (by decide) wd_f_X5_7 rfl dX5_revert_136 ?_
              refine lv_iload_n hx hb dX5_revert_139 rfl (lv_at hl 1 rfl) ?_
              refine mo_ald hF hK hM 0 gi (by decide) hg (by exact hg6) dX5_revert_140 ?_
              exact mo_iret hx hb hr hlk hK hM hS (by rw [hJ, sp_rev_yes hC hgn]) dX5_revert_141
            · skip
              have hC : ¬ (¬ mm 7 wi < 2 ∧ ¬ sp_ve (mm 11 (sp_L mm wi)) = -1 ∧ ¬ sp_ve (mm 11 (sp_L mm wi)) = nI fi ∧ mm 0 (sp_ve (mm 11 (sp_L mm wi))).toNatClampNeg < mm 0 fi) := fun q => c6 (by have q2 := q.2.2.2; rw [hgn] at q2; exact q2)
              refine lv_aload_n hx hb dX5_revert_81 rfl (lv_at hl 1 rfl) ?_
              refine lv_iconst (v := 2) hx hb dX5_revert_82 (by decide) ?_
              refine mo_iV (fr := 0) (lo := 0) (As := [.int 2]) (rest := []) hF (m_X5_fails l D cI o a (up2 mm 19 0 0) hMD 2) ke_X5_fails wd_l_X5_87 (by decide) hK hM hS hA rfl hl.1 rfl (Nat.le_of_ble_eq_true rfl) dX5_revert_83 hf (fun r14 mm15 H locs hr14 hM hS _ _ => ?_)
              obtain ⟨hr14, hmm15⟩ := hr14
              subst hmm15
              replace hr14 : r14 = 0 := hr14
              subst hr14
              exact mo_iret hx hb hr hlk hK hM hS (by rw [hJ, sp_rev_no hC]) dX5_revert_86
    · skip
      rw [if_neg cP] at hM
      refine lv_iconst (v := 0) hx hb dX5_revert_27 (by decide) ?_
      exact mo_iret hx hb hr hlk hK hM hS (by rw [sp_rev, if_neg cP]) dX5_revert_28
  · skip
    refine lv_iload_n hx hb dX5_revert_1 rfl (lv_at hl 1 rfl) ?_
    refine rc_S (fr := 0) (lo := 0) (As := [.int x]) (rest := [.ref o]) hF (m_X5_isEditor l x) ke_X5_isEditor wd_l_X5_75 (by decide) bl_true (fun _ _ _ => trivial) rfl hl.1 rfl (Nat.le_of_ble_eq_true rfl) dX5_revert_2 hf (fun r16 hr16 => ?_)
    refine bo_eq (tgt := 20) hr16 hx hb dX5_revert_5 (by decide) (fun c1 => ?_) (fun c1 => ?_)
    · skip
      refine lv_iconst (v := 0) hx hb dX5_revert_20 (by decide) ?_
      exact J21 _ (by first | exact bo_y c1 c2 | exact bo_n1 c1 | exact bo_n2 c2)
    · skip
      refine lv_aload_n hx hb dX5_revert_8 rfl (lv_at hl 0 rfl) ?_
      refine lv_iload_n hx hb dX5_revert_9 rfl (lv_at hl 2 rfl) ?_
      refine rc_V (fr := 0) (lo := 0) (As := [.int y]) (rest := [.ref o]) hF (m_X5_isWay l D cI o a mm y) ke_X5_isWay wd_l_X5_95 (by decide) mo_blind (fun U hU hv => ⟨by rw [hU]; exact hM, hK.moved hv⟩) (mo_recv hK hM) rfl hl.1 rfl (Nat.le_of_ble_eq_true rfl) dX5_revert_10 hf (fun r17 hr17 => ?_)
      refine bo_eq (tgt := 20) hr17 hx hb dX5_revert_13 (by decide) (fun c2 => ?_) (fun c2 => ?_)
      · skip
        refine lv_iconst (v := 0) hx hb dX5_revert_20 (by decide) ?_
        exact J21 _ (by first | exact bo_y c1 c2 | exact bo_n1 c1 | exact bo_n2 c2)
      · skip
        refine lv_iconst (v := 1) hx hb dX5_revert_16 (by decide) ?_
        refine lv_goto (tgt := 21) hx hb dX5_revert_17 (by decide) ?_
        exact J21 _ (by first | exact bo_y c1 c2 | exact bo_n1 c1 | exact bo_n2 c2)
theorem ke_X5_addWay : wl_V RX5 yX5_addWay cX5_addWay 9 (some .int) 5 := ⟨wd_c_X5_addWay, wd_i_X5_addWay, wd_s_X5_addWay, wd_n_X5, by decide, by decide +kernel⟩
set_option maxHeartbeats 4000000 in
set_option maxRecDepth 100000 in
theorem m_X5_addWay (l : Launch) (D : va_G) (cI : ClassId) (o : Nat) (a : Nat → Nat) (mm : q_Mem) (hMD : mo_D o a) (f x y n k : Int32) (hI : Inv mm) : mo_Ci l yX5_addWay cX5_addWay 9 (some .int) 2 43 D cI o a mm [.int f, .int x, .int y, .int n, .int k] (fun r m1 => (r, m1) = sp_add mm f x y n k) := by
  refine mo_ofQ (by decide) (Nat.le_of_ble_eq_true rfl) ?_
  intro p e s m args below meth c hx hb hr hF hlk hM hK hS ls hl
  have hA : ∀ q, mo_R o a q → mo_R o a q := fun _ h => h
  have hl : lv_has ls 9 [(0, .ref o), (1, .int f), (2, .int x), (3, .int y), (4, .int n), (5, .int k)] := hl
  have hf : (0 : Nat) ≤ 0 ∧ (0 : Nat) ≤ 0 := ⟨Nat.le_refl 0, Nat.le_refl 0⟩
  refine bo_cut (ls := ls) (tgt := 22) (E := if sp_len n then 1 else 0) (rest := []) (fun vl evl => ?_) (fun J22 => ?_)
  · skip
    refine lv_istore (lv' := [(6, .int vl), (0, .ref o), (1, .int f), (2, .int x), (3, .int y), (4, .int n), (5, .int k)]) hx hb dX5_addWay_22 hl (by decide) rfl (fun ls hl => ?_)
    refine bo_cut (ls := ls) (tgt := 37) (E := sp_tx x n) (rest := []) (fun vx evx => ?_) (fun J37 => ?_)
    · skip
      subst evx
      refine lv_istore (lv' := [(7, .int (sp_tx x n)), (6, .int vl), (0, .ref o), (1, .int f), (2, .int x), (3, .int y), (4, .int n), (5, .int k)]) hx hb dX5_addWay_37 hl (by decide) rfl (fun ls hl => ?_)
      refine bo_cut (ls := ls) (tgt := 52) (E := sp_ty y n) (rest := []) (fun vy evy => ?_) (fun J52 => ?_)
      · skip
        subst evy
        refine lv_istore (lv' := [(8, .int (sp_ty y n)), (7, .int (sp_tx x n)), (6, .int vl), (0, .ref o), (1, .int f), (2, .int x), (3, .int y), (4, .int n), (5, .int k)]) hx hb dX5_addWay_52 hl (by decide) rfl (fun ls hl => ?_)
        refine lv_aload_n hx hb dX5_addWay_54 rfl (lv_at hl 3 rfl) ?_
        refine bo_cut (ls := ls) (tgt := 90) (E := if sp_may f x y n then 1 else 0) (rest := [.ref o]) (fun va eva => ?_) (fun J90 => ?_)
        · skip
          refine mo_iV (fr := 0) (lo := 0) (As := [.int va]) (rest := []) hF (m_X5_asks l D cI o a mm hMD va (sp_may f x y n) eva) ke_X5_asks wd_l_X5_83 (by decide) hK hM hS hA rfl hl.1 rfl (Nat.le_of_ble_eq_true rfl) dX5_addWay_90 hf (fun r5 mm6 H locs hr5 hM hS _ _ => ?_)
          obtain ⟨hr5, hmm6⟩ := hr5
          subst hmm6
          have hbr5 := hr5.trans eva
          refine bo_ne (tgt := 98) hbr5 hx hb dX5_addWay_93 (by decide) (fun cP => ?_) (fun cP => ?_)
          · skip
            rw [if_pos cP] at hM
            refine lv_iload hx hb dX5_addWay_98 (lv_at hl 2 rfl) ?_
            refine bo_eq (tgt := 113) evl hx hb dX5_addWay_100 (by decide) (fun c9 => ?_) (fun c9 => ?_)
            · skip
              have hN : ¬ (sp_len n ∧ (0 ≤ k ∧ k ≤ 3)) := fun q => c9 q.1
              refine lv_aload_n hx hb dX5_addWay_113 rfl (lv_at hl 3 rfl) ?_
              refine lv_iconst (v := 2) hx hb dX5_addWay_114 (by decide) ?_
              refine mo_iV (fr := 0) (lo := 0) (As := [.int 2]) (rest := []) hF (m_X5_fails l D cI o a (up2 mm 19 0 0) hMD 2) ke_X5_fails wd_l_X5_87 (by decide) hK hM hS hA rfl hl.1 rfl (Nat.le_of_ble_eq_true rfl) dX5_addWay_115 hf (fun r7 mm8 H locs hr7 hM hS _ _ => ?_)
              obtain ⟨hr7, hmm8⟩ := hr7
              subst hmm8
              replace hr7 : r7 = 0 := hr7
              subst hr7
              exact mo_iret hx hb hr hlk hK hM hS (by rw [sp_add, if_pos cP, if_neg hN, up2_twice]) dX5_addWay_118
            · skip
              refine lv_iload hx hb dX5_addWay_103 (lv_at hl 8 rfl) ?_
              refine lv_iconst (v := 0) hx hb dX5_addWay_105 (by decide) ?_
              refine lv_iconst (v := 3) hx hb dX5_addWay_106 (by decide) ?_
              refine rc_S (fr := 0) (lo := 0) (As := [.int k, .int 0, .int 3]) (rest := []) hF (m_X5_in l k 0 3) ke_X5_in wd_l_X5_65 (by decide) bl_true (fun _ _ _ => trivial) rfl hl.1 rfl (Nat.le_of_ble_eq_true rfl) dX5_addWay_107 hf (fun r9 hr9 => ?_)
              refine bo_ne (tgt := 119) hr9 hx hb dX5_addWay_110 (by decide) (fun c10 => ?_) (fun c10 => ?_)
              · skip
                refine lv_aload_n hx hb dX5_addWay_119 rfl (lv_at hl 3 rfl) ?_
                refine mo_get hF hK hM 1 (by decide) wd_f_X5_69 rfl dX5_addWay_120 ?_
                refine bo_to (v := (mm 1 0)) (up2_c (by decide)) ?_
                refine lv_bipush (v := 40) hx hb dX5_addWay_123 (by decide) ?_
                refine lv_icmp_ne (tgt := 134) hx hb dX5_addWay_125 (by decide) (fun c11 => ?_) (fun c11 => ?_)
                · skip
                  have hW := nt_w40 hI c11
                  refine lv_aload_n hx hb dX5_addWay_134 rfl (lv_at hl 3 rfl) ?_
                  refine mo_get hF hK hM 2 (by decide) wd_f_X5_13 rfl dX5_addWay_135 ?_
                  refine lv_aload_n hx hb dX5_addWay_138 rfl (lv_at hl 3 rfl) ?_
                  refine mo_get hF hK hM 1 (by decide) wd_f_X5_69 rfl dX5_addWay_139 ?_
                  refine bo_to (v := (mm 1 0)) (up2_c (by decide)) ?_
                  refine lv_iload_n hx hb dX5_addWay_142 rfl (lv_at hl 5 rfl) ?_
                  refine mo_ast (mm := (up2 mm 19 0 0)) hF hK hM hMD hS hA 2 (sp_W mm) (by decide) hI.W (by exact hW) dX5_addWay_143 (fun H locs hM hS => ?_)
                  refine lv_aload_n hx hb dX5_addWay_144 rfl (lv_at hl 3 rfl) ?_
                  refine mo_get hF hK hM 3 (by decide) wd_f_X5_16 rfl dX5_addWay_145 ?_
                  refine lv_aload_n hx hb dX5_addWay_148 rfl (lv_at hl 3 rfl) ?_
                  refine mo_get hF hK hM 1 (by decide) wd_f_X5_69 rfl dX5_addWay_149 ?_
                  refine bo_to (v := (mm 1 0)) (Eq.trans (up2_c (by decide)) (up2_c (by decide))) ?_
                  refine lv_iload_n hx hb dX5_addWay_152 rfl (lv_at hl 6 rfl) ?_
                  refine mo_ast (mm := (up2 (up2 mm 19 0 0) 2 (sp_W mm) x)) hF hK hM hMD hS hA 3 (sp_W mm) (by decide) hI.W (by exact hW) dX5_addWay_153 (fun H locs hM hS => ?_)
                  refine lv_aload_n hx hb dX5_addWay_154 rfl (lv_at hl 3 rfl) ?_
                  refine mo_get hF hK hM 4 (by decide) wd_f_X5_19 rfl dX5_addWay_155 ?_
                  refine lv_aload_n hx hb dX5_addWay_158 rfl (lv_at hl 3 rfl) ?_
                  refine mo_get hF hK hM 1 (by decide) wd_f_X5_69 rfl dX5_addWay_159 ?_
                  refine bo_to (v := (mm 1 0)) (Eq.trans (up2_c (by decide)) (Eq.trans (up2_c (by decide)) (up2_c (by decide)))) ?_
                  refine lv_iload hx hb dX5_addWay_162 (lv_at hl 1 rfl) ?_
                  refine mo_ast (mm := (up2 (up2 (up2 mm 19 0 0) 2 (sp_W mm) x) 3 (sp_W mm) y)) hF hK hM hMD hS hA 4 (sp_W mm) (by decide) hI.W (by exact hW) dX5_addWay_164 (fun H locs hM hS => ?_)
                  refine lv_aload_n hx hb dX5_addWay_165 rfl (lv_at hl 3 rfl) ?_
                  refine mo_get hF hK hM 5 (by decide) wd_f_X5_22 rfl dX5_addWay_166 ?_
                  refine lv_aload_n hx hb dX5_addWay_169 rfl (lv_at hl 3 rfl) ?_
                  refine mo_get hF hK hM 1 (by decide) wd_f_X5_69 rfl dX5_addWay_170 ?_
                  refine bo_to (v := (mm 1 0)) (Eq.trans (up2_c (by decide)) (Eq.trans (up2_c (by decide)) (Eq.trans (up2_c (by decide)) (up2_c (by decide))))) ?_
                  refine lv_iload hx hb dX5_addWay_173 (lv_at hl 0 rfl) ?_
                  refine mo_ast (mm := (up2 (up2 (up2 (up2 mm 19 0 0) 2 (sp_W mm) x) 3 (sp_W mm) y) 4 (sp_W mm) (sp_tx x n))) hF hK hM hMD hS hA 5 (sp_W mm) (by decide) hI.W (by exact hW) dX5_addWay_175 (fun H locs hM hS => ?_)
                  refine lv_aload_n hx hb dX5_addWay_176 rfl (lv_at hl 3 rfl) ?_
                  refine lv_aload_n hx hb dX5_addWay_177 rfl (lv_at hl 3 rfl) ?_
                  refine mo_get hF hK hM 1 (by decide) wd_f_X5_69 rfl dX5_addWay_178 ?_
                  refine bo_to (v := (mm 1 0)) (Eq.trans (up2_c (by decide)) (Eq.trans (up2_c (by decide)) (Eq.trans (up2_c (by decide)) (Eq.trans (up2_c (by decide)) (up2_c (by decide)))))) ?_
                  refine bo_to (v := (nI (sp_W mm))) (hI.W) ?_
                  refine lv_iload hx hb dX5_addWay_181 (lv_at hl 8 rfl) ?_
                  refine lv_iconst (v := 0) hx hb dX5_addWay_183 (by decide) ?_
                  refine lv_iload_n hx hb dX5_addWay_184 rfl (lv_at hl 4 rfl) ?_
                  refine mo_vV (fr := 0) (lo := 0) (As := [.int (nI (sp_W mm)), .int k, .int 0, .int f]) (rest := []) hF (m_X5_makes l D cI o a (up2 (up2 (up2 (up2 (up2 mm 19 0 0) 2 (sp_W mm) x) 3 (sp_W mm) y) 4 (sp_W mm) (sp_tx x n)) 5 (sp_W mm) (sp_ty y n)) hMD (sp_W mm) k 0 f (by exact hW) hI.K hI.K4200) ke_X5_makes wd_l_X5_91 (by decide) hK hM hS hA rfl hl.1 rfl (Nat.le_of_ble_eq_true rfl) dX5_addWay_185 hf (fun mm11 H locs hmm11 hM hS => ?_)
                  subst hmm11
                  refine lv_aload_n hx hb dX5_addWay_188 rfl (lv_at hl 3 rfl) ?_
                  refine lv_dup hx hb dX5_addWay_189 rfl ?_
                  refine mo_get hF hK hM 1 (by decide) wd_f_X5_69 rfl dX5_addWay_190 ?_
                  refine bo_to (v := (mm 1 0)) (rfl) ?_
                  refine lv_iconst (v := 1) hx hb dX5_addWay_193 (by decide) ?_
                  refine lv_iadd hx hb dX5_addWay_194 ?_
                  refine mo_put (mm := sp_make (up2 (up2 (up2 (up2 (up2 mm 19 0 0) 2 (sp_W mm) x) 3 (sp_W mm) y) 4 (sp_W mm) (sp_tx x n)) 5 (sp_W mm) (sp_ty y n)) (sp_W mm) k 0 f) hF hK hM hMD hS hA 1 (by decide) wd_f_X5_69 dX5_addWay_195 (fun H locs hM hS => ?_)
                  refine lv_aload_n hx hb dX5_addWay_198 rfl (lv_at hl 3 rfl) ?_
                  refine mo_get hF hK hM 1 (by decide) wd_f_X5_69 rfl dX5_addWay_199 ?_
                  refine bo_to (v := ((mm 1 0) + 1)) (up2_s) ?_
                  refine lv_iconst (v := 1) hx hb dX5_addWay_202 (by decide) ?_
                  refine lv_isub hx hb dX5_addWay_203 ?_
                  refine bo_to (v := (mm 1 0)) (i_pm _) ?_
                  exact mo_iret hx hb hr hlk hK hM hS (by rw [sp_add, if_pos cP, if_pos (And.intro c9 c10), if_neg c11]; rfl) dX5_addWay_204
                · skip
                  refine lv_aload_n hx hb dX5_addWay_128 rfl (lv_at hl 3 rfl) ?_
                  refine lv_iconst (v := 3) hx hb dX5_addWay_129 (by decide) ?_
                  refine mo_iV (fr := 0) (lo := 0) (As := [.int 3]) (rest := []) hF (m_X5_fails l D cI o a (up2 mm 19 0 0) hMD 3) ke_X5_fails wd_l_X5_87 (by decide) hK hM hS hA rfl hl.1 rfl (Nat.le_of_ble_eq_true rfl) dX5_addWay_130 hf (fun r12 mm13 H locs hr12 hM hS _ _ => ?_)
                  obtain ⟨hr12, hmm13⟩ := hr12
                  subst hmm13
                  replace hr12 : r12 = 0 := hr12
                  subst hr12
                  exact mo_iret hx hb hr hlk hK hM hS (by rw [sp_add, if_pos cP, if_pos (And.intro c9 c10), if_pos c11, up2_twice]) dX5_addWay_133
              · skip
                have hN : ¬ (sp_len n ∧ (0 ≤ k ∧ k ≤ 3)) := fun q => c10 q.2
                refine lv_aload_n hx hb dX5_addWay_113 rfl (lv_at hl 3 rfl) ?_
                refine lv_iconst (v := 2) hx hb dX5_addWay_114 (by decide) ?_
                refine mo_iV (fr := 0) (lo := 0) (As := [.int 2]) (rest := []) hF (m_X5_fails l D cI o a (up2 mm 19 0 0) hMD 2) ke_X5_fails wd_l_X5_87 (by decide) hK hM hS hA rfl hl.1 rfl (Nat.le_of_ble_eq_true rfl) dX5_addWay_115 hf (fun r14 mm15 H locs hr14 hM hS _ _ => ?_)
                obtain ⟨hr14, hmm15⟩ := hr14
                subst hmm15
                replace hr14 : r14 = 0 := hr14
                subst hr14
                exact mo_iret hx hb hr hlk hK hM hS (by rw [sp_add, if_pos cP, if_neg hN, up2_twice]) dX5_addWay_118
          · skip
            rw [if_neg cP] at hM
            refine lv_iconst (v := 0) hx hb dX5_addWay_96 (by decide) ?_
            exact mo_iret hx hb hr hlk hK hM hS (by rw [sp_add, if_neg cP]) dX5_addWay_97
        · skip
          refine lv_iload_n hx hb dX5_addWay_55 rfl (lv_at hl 4 rfl) ?_
          refine rc_S (fr := 0) (lo := 0) (As := [.int f]) (rest := [.ref o]) hF (m_X5_isEditor l f) ke_X5_isEditor wd_l_X5_75 (by decide) bl_true (fun _ _ _ => trivial) rfl hl.1 rfl (Nat.le_of_ble_eq_true rfl) dX5_addWay_56 hf (fun r16 hr16 => ?_)
          refine bo_eq (tgt := 89) hr16 hx hb dX5_addWay_59 (by decide) (fun c5 => ?_) (fun c5 => ?_)
          · skip
            refine lv_iconst (v := 0) hx hb dX5_addWay_89 (by decide) ?_
            exact J90 _ (by first | exact bo_p ⟨c5, c6, fun q => absurd q c7⟩ | exact bo_p ⟨c5, c6, fun _ => c8⟩ | exact bo_n (fun q => c8 (q.2.2 c7)) | exact bo_n (fun q => c6 q.2.1) | exact bo_n (fun q => c5 q.1))
          · skip
            refine lv_iload_n hx hb dX5_addWay_62 rfl (lv_at hl 5 rfl) ?_
            refine lv_iload_n hx hb dX5_addWay_63 rfl (lv_at hl 6 rfl) ?_
            refine rc_S (fr := 1) (lo := 22) (As := [.int x, .int y]) (rest := [.ref o]) hF (m_X5_isCrossing l x y) ke_X5_isCrossing wd_l_X5_79 (by decide) bl_true (fun _ _ _ => trivial) rfl hl.1 rfl (Nat.le_of_ble_eq_true rfl) dX5_addWay_64 hf (fun r17 hr17 => ?_)
            refine bo_eq (tgt := 89) hr17 hx hb dX5_addWay_67 (by decide) (fun c6 => ?_) (fun c6 => ?_)
            · skip
              refine lv_iconst (v := 0) hx hb dX5_addWay_89 (by decide) ?_
              exact J90 _ (by first | exact bo_p ⟨c5, c6, fun q => absurd q c7⟩ | exact bo_p ⟨c5, c6, fun _ => c8⟩ | exact bo_n (fun q => c8 (q.2.2 c7)) | exact bo_n (fun q => c6 q.2.1) | exact bo_n (fun q => c5 q.1))
            · skip
              refine lv_iload hx hb dX5_addWay_70 (lv_at hl 2 rfl) ?_
              refine bo_eq (tgt := 85) evl hx hb dX5_addWay_72 (by decide) (fun c7 => ?_) (fun c7 => ?_)
              · skip
                refine lv_iconst (v := 1) hx hb dX5_addWay_85 (by decide) ?_
                refine lv_goto (tgt := 90) hx hb dX5_addWay_86 (by decide) ?_
                exact J90 _ (by first | exact bo_p ⟨c5, c6, fun q => absurd q c7⟩ | exact bo_p ⟨c5, c6, fun _ => c8⟩ | exact bo_n (fun q => c8 (q.2.2 c7)) | exact bo_n (fun q => c6 q.2.1) | exact bo_n (fun q => c5 q.1))
              · skip
                refine lv_iload hx hb dX5_addWay_75 (lv_at hl 1 rfl) ?_
                refine lv_iload hx hb dX5_addWay_77 (lv_at hl 0 rfl) ?_
                refine rc_S (fr := 1) (lo := 22) (As := [.int (sp_tx x n), .int (sp_ty y n)]) (rest := [.ref o]) hF (m_X5_isCrossing l (sp_tx x n) (sp_ty y n)) ke_X5_isCrossing wd_l_X5_79 (by decide) bl_true (fun _ _ _ => trivial) rfl hl.1 rfl (Nat.le_of_ble_eq_true rfl) dX5_addWay_79 hf (fun r18 hr18 => ?_)
                refine bo_eq (tgt := 89) hr18 hx hb dX5_addWay_82 (by decide) (fun c8 => ?_) (fun c8 => ?_)
                · skip
                  refine lv_iconst (v := 0) hx hb dX5_addWay_89 (by decide) ?_
                  exact J90 _ (by first | exact bo_p ⟨c5, c6, fun q => absurd q c7⟩ | exact bo_p ⟨c5, c6, fun _ => c8⟩ | exact bo_n (fun q => c8 (q.2.2 c7)) | exact bo_n (fun q => c6 q.2.1) | exact bo_n (fun q => c5 q.1))
                · skip
                  refine lv_iconst (v := 1) hx hb dX5_addWay_85 (by decide) ?_
                  refine lv_goto (tgt := 90) hx hb dX5_addWay_86 (by decide) ?_
                  exact J90 _ (by first | exact bo_p ⟨c5, c6, fun q => absurd q c7⟩ | exact bo_p ⟨c5, c6, fun _ => c8⟩ | exact bo_n (fun q => c8 (q.2.2 c7)) | exact bo_n (fun q => c6 q.2.1) | exact bo_n (fun q => c5 q.1))
      · skip
        refine lv_iload hx hb dX5_addWay_39 (lv_at hl 6 rfl) ?_
        refine lv_if_ge (tgt := 51) hx hb dX5_addWay_41 (by decide) (fun c4 => ?_) (fun c4 => ?_)
        · skip
          refine lv_iload_n hx hb dX5_addWay_51 rfl (lv_at hl 5 rfl) ?_
          exact J52 _ (by first | exact (if_neg (bo_nlt c4)).symm | exact (if_pos (bo_le c4)).symm)
        · skip
          refine lv_iload_n hx hb dX5_addWay_44 rfl (lv_at hl 5 rfl) ?_
          refine lv_iload hx hb dX5_addWay_45 (lv_at hl 6 rfl) ?_
          refine lv_isub hx hb dX5_addWay_47 ?_
          refine lv_goto (tgt := 52) hx hb dX5_addWay_48 (by decide) ?_
          exact J52 _ (by first | exact (if_neg (bo_nlt c4)).symm | exact (if_pos (bo_le c4)).symm)
    · skip
      refine lv_iload hx hb dX5_addWay_24 (lv_at hl 5 rfl) ?_
      refine lv_if_le (tgt := 36) hx hb dX5_addWay_26 (by decide) (fun c3 => ?_) (fun c3 => ?_)
      · skip
        refine lv_iload_n hx hb dX5_addWay_36 rfl (lv_at hl 3 rfl) ?_
        exact J37 _ (by first | exact (if_neg (bo_nlt c3)).symm | exact (if_pos (bo_le c3)).symm)
      · skip
        refine lv_iload_n hx hb dX5_addWay_29 rfl (lv_at hl 3 rfl) ?_
        refine lv_iload hx hb dX5_addWay_30 (lv_at hl 5 rfl) ?_
        refine lv_iadd hx hb dX5_addWay_32 ?_
        refine lv_goto (tgt := 37) hx hb dX5_addWay_33 (by decide) ?_
        exact J37 _ (by first | exact (if_neg (bo_nlt c3)).symm | exact (if_pos (bo_le c3)).symm)
  · skip
    refine lv_iload hx hb dX5_addWay_0 (lv_at hl 4 rfl) ?_
    refine lv_if_eq (tgt := 21) hx hb dX5_addWay_2 (by decide) (fun c1 => ?_) (fun c1 => ?_)
    · skip
      refine lv_iconst (v := 0) hx hb dX5_addWay_21 (by decide) ?_
      exact J22 _ (by first | exact bo_p ⟨c1, c2⟩ | exact bo_n (fun q => q.1 c1) | exact bo_n (fun q => c2 q.2))
    · skip
      refine lv_iload hx hb dX5_addWay_5 (lv_at hl 4 rfl) ?_
      refine lv_bipush (v := (-16)) hx hb dX5_addWay_7 (by decide) ?_
      refine lv_bipush (v := 16) hx hb dX5_addWay_9 (by decide) ?_
      refine rc_S (fr := 0) (lo := 0) (As := [.int n, .int (-16), .int 16]) (rest := []) hF (m_X5_in l n (-16) 16) ke_X5_in wd_l_X5_65 (by decide) bl_true (fun _ _ _ => trivial) rfl hl.1 rfl (Nat.le_of_ble_eq_true rfl) dX5_addWay_11 hf (fun r19 hr19 => ?_)
      refine bo_eq (tgt := 21) hr19 hx hb dX5_addWay_14 (by decide) (fun c2 => ?_) (fun c2 => ?_)
      · skip
        refine lv_iconst (v := 0) hx hb dX5_addWay_21 (by decide) ?_
        exact J22 _ (by first | exact bo_p ⟨c1, c2⟩ | exact bo_n (fun q => q.1 c1) | exact bo_n (fun q => c2 q.2))
      · skip
        refine lv_iconst (v := 1) hx hb dX5_addWay_17 (by decide) ?_
        refine lv_goto (tgt := 22) hx hb dX5_addWay_18 (by decide) ?_
        exact J22 _ (by first | exact bo_p ⟨c1, c2⟩ | exact bo_n (fun q => q.1 c1) | exact bo_n (fun q => c2 q.2))
theorem ke_X5_guard : wl_V RX5 yX5_guard cX5_guard 4 (some .int) 2 := ⟨wd_c_X5_guard, wd_i_X5_guard, wd_s_X5_guard, wd_n_X5, by decide, by decide +kernel⟩
set_option maxHeartbeats 4000000 in
set_option maxRecDepth 100000 in
theorem m_X5_guard (l : Launch) (D : va_G) (cI : ClassId) (o : Nat) (a : Nat → Nat) (mm : q_Mem) (hMD : mo_D o a) (x y : Int32) (hI : Inv mm) : mo_Ci l yX5_guard cX5_guard 4 (some .int) 1 22 D cI o a mm [.int x, .int y] (fun r m1 => (r, m1) = sp_guard mm x y) := by
  refine mo_ofQ (by decide) (Nat.le_of_ble_eq_true rfl) ?_
  intro p e s m args below meth c hx hb hr hF hlk hM hK hS ls hl
  have hA : ∀ q, mo_R o a q → mo_R o a q := fun _ h => h
  have hl : lv_has ls 4 [(0, .ref o), (1, .int x), (2, .int y)] := hl
  have hf : (0 : Nat) ≤ 0 ∧ (0 : Nat) ≤ 0 := ⟨Nat.le_refl 0, Nat.le_refl 0⟩
  refine lv_aload_n hx hb dX5_guard_0 rfl (lv_at hl 0 rfl) ?_
  refine lv_aload_n hx hb dX5_guard_1 rfl (lv_at hl 0 rfl) ?_
  refine lv_iload_n hx hb dX5_guard_2 rfl (lv_at hl 1 rfl) ?_
  refine rc_V (fr := 0) (lo := 0) (As := [.int x]) (rest := [.ref o]) hF (m_X5_isWay l D cI o a mm x) ke_X5_isWay wd_l_X5_95 (by decide) mo_blind (fun U hU hv => ⟨by rw [hU]; exact hM, hK.moved hv⟩) (mo_recv hK hM) rfl hl.1 rfl (Nat.le_of_ble_eq_true rfl) dX5_guard_3 hf (fun r1 hr1 => ?_)
  refine mo_iV (fr := 0) (lo := 0) (As := [.int r1]) (rest := []) hF (m_X5_asks l D cI o a mm hMD r1 (sp_wy mm x) hr1) ke_X5_asks wd_l_X5_83 (by decide) hK hM hS hA rfl hl.1 rfl (Nat.le_of_ble_eq_true rfl) dX5_guard_6 hf (fun r2 mm3 H locs hr2 hM hS _ _ => ?_)
  obtain ⟨hr2, hmm3⟩ := hr2
  subst hmm3
  have hbr2 := hr2.trans hr1
  refine bo_ne (tgt := 14) hbr2 hx hb dX5_guard_9 (by decide) (fun cP => ?_) (fun cP => ?_)
  · skip
    rw [if_pos cP] at hM
    have hW40 := hI.W40
    obtain ⟨wi, hwi, rfl⟩ := nt_wy hI cP
    refine lv_iload_n hx hb dX5_guard_14 rfl (lv_at hl 2 rfl) ?_
    refine lv_iconst (v := 0) hx hb dX5_guard_15 (by decide) ?_
    refine lv_bipush (v := 100) hx hb dX5_guard_16 (by decide) ?_
    refine rc_S (fr := 0) (lo := 0) (As := [.int y, .int 0, .int 100]) (rest := []) hF (m_X5_in l y 0 100) ke_X5_in wd_l_X5_65 (by decide) bl_true (fun _ _ _ => trivial) rfl hl.1 rfl (Nat.le_of_ble_eq_true rfl) dX5_guard_18 hf (fun r4 hr4 => ?_)
    refine bo_ne (tgt := 30) hr4 hx hb dX5_guard_21 (by decide) (fun c1 => ?_) (fun c1 => ?_)
    · skip
      refine lv_aload_n hx hb dX5_guard_30 rfl (lv_at hl 0 rfl) ?_
      refine mo_get hF hK hM 6 (by decide) wd_f_X5_25 rfl dX5_guard_31 ?_
      refine lv_iload_n hx hb dX5_guard_34 rfl (lv_at hl 1 rfl) ?_
      refine mo_ald hF hK hM 6 wi (by decide) rfl (show wi < 40 by omega) dX5_guard_35 ?_
      refine bo_to (v := (mm 6 wi)) (up2_c (by decide)) ?_
      refine lv_istore_n (lv' := [(3, .int (mm 6 wi)), (0, .ref o), (1, .int (nI wi)), (2, .int y)]) hx hb dX5_guard_36 rfl hl (by decide) rfl (fun ls hl => ?_)
      refine lv_aload_n hx hb dX5_guard_37 rfl (lv_at hl 1 rfl) ?_
      refine mo_get hF hK hM 6 (by decide) wd_f_X5_25 rfl dX5_guard_38 ?_
      refine lv_iload_n hx hb dX5_guard_41 rfl (lv_at hl 2 rfl) ?_
      refine lv_iload_n hx hb dX5_guard_42 rfl (lv_at hl 3 rfl) ?_
      refine mo_ast (mm := (up2 mm 19 0 0)) hF hK hM hMD hS hA 6 wi (by decide) rfl (show wi < 40 by omega) dX5_guard_43 (fun H locs hM hS => ?_)
      refine lv_iload_n hx hb dX5_guard_44 rfl (lv_at hl 0 rfl) ?_
      exact mo_iret hx hb hr hlk hK hM hS (by rw [sp_guard, if_pos cP, if_pos c1, nt_c (by omega)]) dX5_guard_45
    · skip
      refine lv_aload_n hx hb dX5_guard_24 rfl (lv_at hl 0 rfl) ?_
      refine lv_iconst (v := 2) hx hb dX5_guard_25 (by decide) ?_
      refine mo_iV (fr := 0) (lo := 0) (As := [.int 2]) (rest := []) hF (m_X5_fails l D cI o a (up2 mm 19 0 0) hMD 2) ke_X5_fails wd_l_X5_87 (by decide) hK hM hS hA rfl hl.1 rfl (Nat.le_of_ble_eq_true rfl) dX5_guard_26 hf (fun r5 mm6 H locs hr5 hM hS _ _ => ?_)
      obtain ⟨hr5, hmm6⟩ := hr5
      subst hmm6
      replace hr5 : r5 = 0 := hr5
      subst hr5
      exact mo_iret hx hb hr hlk hK hM hS (by rw [sp_guard, if_pos cP, if_neg c1, up2_twice]) dX5_guard_29
  · skip
    rw [if_neg cP] at hM
    refine lv_iconst (v := 0) hx hb dX5_guard_12 (by decide) ?_
    exact mo_iret hx hb hr hlk hK hM hS (by rw [sp_guard, if_neg cP]) dX5_guard_13
theorem ke_X5_trust : wl_V RX5 yX5_trust cX5_trust 2 (some .int) 1 := ⟨wd_c_X5_trust, wd_i_X5_trust, wd_s_X5_trust, wd_n_X5, by decide, by decide +kernel⟩
set_option maxHeartbeats 4000000 in
set_option maxRecDepth 100000 in
theorem m_X5_trust (l : Launch) (D : va_G) (cI : ClassId) (o : Nat) (a : Nat → Nat) (mm : q_Mem) (hMD : mo_D o a) (x : Int32)  : mo_Ci l yX5_trust cX5_trust 2 (some .int) 1 21 D cI o a mm [.int x] (fun r m1 => (r, m1) = sp_trust mm x) := by
  refine mo_ofQ (by decide) (Nat.le_of_ble_eq_true rfl) ?_
  intro p e s m args below meth c hx hb hr hF hlk hM hK hS ls hl
  have hA : ∀ q, mo_R o a q → mo_R o a q := fun _ h => h
  have hl : lv_has ls 2 [(0, .ref o), (1, .int x)] := hl
  have hf : (0 : Nat) ≤ 0 ∧ (0 : Nat) ≤ 0 := ⟨Nat.le_refl 0, Nat.le_refl 0⟩
  refine lv_aload_n hx hb dX5_trust_0 rfl (lv_at hl 0 rfl) ?_
  refine lv_iload_n hx hb dX5_trust_1 rfl (lv_at hl 1 rfl) ?_
  refine rc_S (fr := 0) (lo := 0) (As := [.int x]) (rest := [.ref o]) hF (m_X5_isEditor l x) ke_X5_isEditor wd_l_X5_75 (by decide) bl_true (fun _ _ _ => trivial) rfl hl.1 rfl (Nat.le_of_ble_eq_true rfl) dX5_trust_2 hf (fun r1 hr1 => ?_)
  refine mo_iV (fr := 0) (lo := 0) (As := [.int r1]) (rest := []) hF (m_X5_asks l D cI o a mm hMD r1 (sp_ed x) hr1) ke_X5_asks wd_l_X5_83 (by decide) hK hM hS hA rfl hl.1 rfl (Nat.le_of_ble_eq_true rfl) dX5_trust_5 hf (fun r2 mm3 H locs hr2 hM hS _ _ => ?_)
  obtain ⟨hr2, hmm3⟩ := hr2
  subst hmm3
  have hbr2 := hr2.trans hr1
  refine bo_eq (tgt := 20) hbr2 hx hb dX5_trust_8 (by decide) (fun cP => ?_) (fun cP => ?_)
  · skip
    rw [if_neg cP] at hM
    refine lv_iconst (v := 0) hx hb dX5_trust_20 (by decide) ?_
    exact mo_iret hx hb hr hlk hK hM hS (by first | (rw [sp_trust, if_neg cP]; done) | (rw [sp_trust, if_pos cP, nt_c (by omega)]; done)) dX5_trust_21
  · skip
    rw [if_pos cP] at hM
    obtain ⟨fi, hf6, rfl⟩ := nt_ed cP
    refine lv_aload_n hx hb dX5_trust_11 rfl (lv_at hl 0 rfl) ?_
    refine mo_get hF hK hM 0 (by decide) wd_f_X5_7 rfl dX5_trust_12 ?_
    refine lv_iload_n hx hb dX5_trust_15 rfl (lv_at hl 1 rfl) ?_
    refine mo_ald hF hK hM 0 fi (by decide) rfl (by exact hf6) dX5_trust_16 ?_
    refine bo_to (v := (mm 0 fi)) (up2_c (by decide)) ?_
    refine lv_goto (tgt := 21) hx hb dX5_trust_17 (by decide) ?_
    exact mo_iret hx hb hr hlk hK hM hS (by first | (rw [sp_trust, if_neg cP]; done) | (rw [sp_trust, if_pos cP, nt_c (by omega)]; done)) dX5_trust_21
theorem ke_X5_versions : wl_V RX5 yX5_versions cX5_versions 2 (some .int) 1 := ⟨wd_c_X5_versions, wd_i_X5_versions, wd_s_X5_versions, wd_n_X5, by decide, by decide +kernel⟩
set_option maxHeartbeats 4000000 in
set_option maxRecDepth 100000 in
theorem m_X5_versions (l : Launch) (D : va_G) (cI : ClassId) (o : Nat) (a : Nat → Nat) (mm : q_Mem) (hMD : mo_D o a) (x : Int32) (hI : Inv mm) : mo_Ci l yX5_versions cX5_versions 2 (some .int) 1 21 D cI o a mm [.int x] (fun r m1 => (r, m1) = sp_ofway 7 mm x) := by
  refine mo_ofQ (by decide) (Nat.le_of_ble_eq_true rfl) ?_
  intro p e s m args below meth c hx hb hr hF hlk hM hK hS ls hl
  have hA : ∀ q, mo_R o a q → mo_R o a q := fun _ h => h
  have hl : lv_has ls 2 [(0, .ref o), (1, .int x)] := hl
  have hf : (0 : Nat) ≤ 0 ∧ (0 : Nat) ≤ 0 := ⟨Nat.le_refl 0, Nat.le_refl 0⟩
  refine lv_aload_n hx hb dX5_versions_0 rfl (lv_at hl 0 rfl) ?_
  refine lv_aload_n hx hb dX5_versions_1 rfl (lv_at hl 0 rfl) ?_
  refine lv_iload_n hx hb dX5_versions_2 rfl (lv_at hl 1 rfl) ?_
  refine rc_V (fr := 0) (lo := 0) (As := [.int x]) (rest := [.ref o]) hF (m_X5_isWay l D cI o a mm x) ke_X5_isWay wd_l_X5_95 (by decide) mo_blind (fun U hU hv => ⟨by rw [hU]; exact hM, hK.moved hv⟩) (mo_recv hK hM) rfl hl.1 rfl (Nat.le_of_ble_eq_true rfl) dX5_versions_3 hf (fun r1 hr1 => ?_)
  refine mo_iV (fr := 0) (lo := 0) (As := [.int r1]) (rest := []) hF (m_X5_asks l D cI o a mm hMD r1 (sp_wy mm x) hr1) ke_X5_asks wd_l_X5_83 (by decide) hK hM hS hA rfl hl.1 rfl (Nat.le_of_ble_eq_true rfl) dX5_versions_6 hf (fun r2 mm3 H locs hr2 hM hS _ _ => ?_)
  obtain ⟨hr2, hmm3⟩ := hr2
  subst hmm3
  have hbr2 := hr2.trans hr1
  refine bo_eq (tgt := 21) hbr2 hx hb dX5_versions_9 (by decide) (fun cP => ?_) (fun cP => ?_)
  · skip
    rw [if_neg cP] at hM
    refine lv_iconst (v := 0) hx hb dX5_versions_21 (by decide) ?_
    exact mo_iret hx hb hr hlk hK hM hS (by first | (rw [sp_ofway, if_neg cP]; done) | (rw [sp_ofway, if_pos cP, nt_c (by omega)]; done)) dX5_versions_22
  · skip
    rw [if_pos cP] at hM
    have hW40 := hI.W40
    obtain ⟨wi, hwi, rfl⟩ := nt_wy hI cP
    refine lv_aload_n hx hb dX5_versions_12 rfl (lv_at hl 0 rfl) ?_
    refine mo_get hF hK hM 7 (by decide) wd_f_X5_28 rfl dX5_versions_13 ?_
    refine lv_iload_n hx hb dX5_versions_16 rfl (lv_at hl 1 rfl) ?_
    refine mo_ald hF hK hM 7 wi (by decide) rfl (show wi < 40 by omega) dX5_versions_17 ?_
    refine bo_to (v := (mm 7 wi)) (up2_c (by decide)) ?_
    refine lv_goto (tgt := 22) hx hb dX5_versions_18 (by decide) ?_
    exact mo_iret hx hb hr hlk hK hM hS (by first | (rw [sp_ofway, if_neg cP]; done) | (rw [sp_ofway, if_pos cP, nt_c (by omega)]; done)) dX5_versions_22
theorem ke_X5_waiting : wl_V RX5 yX5_waiting cX5_waiting 2 (some .int) 1 := ⟨wd_c_X5_waiting, wd_i_X5_waiting, wd_s_X5_waiting, wd_n_X5, by decide, by decide +kernel⟩
set_option maxHeartbeats 4000000 in
set_option maxRecDepth 100000 in
theorem m_X5_waiting (l : Launch) (D : va_G) (cI : ClassId) (o : Nat) (a : Nat → Nat) (mm : q_Mem) (hMD : mo_D o a) (x : Int32) (hI : Inv mm) : mo_Ci l yX5_waiting cX5_waiting 2 (some .int) 1 21 D cI o a mm [.int x] (fun r m1 => (r, m1) = sp_ofway 9 mm x) := by
  refine mo_ofQ (by decide) (Nat.le_of_ble_eq_true rfl) ?_
  intro p e s m args below meth c hx hb hr hF hlk hM hK hS ls hl
  have hA : ∀ q, mo_R o a q → mo_R o a q := fun _ h => h
  have hl : lv_has ls 2 [(0, .ref o), (1, .int x)] := hl
  have hf : (0 : Nat) ≤ 0 ∧ (0 : Nat) ≤ 0 := ⟨Nat.le_refl 0, Nat.le_refl 0⟩
  refine lv_aload_n hx hb dX5_waiting_0 rfl (lv_at hl 0 rfl) ?_
  refine lv_aload_n hx hb dX5_waiting_1 rfl (lv_at hl 0 rfl) ?_
  refine lv_iload_n hx hb dX5_waiting_2 rfl (lv_at hl 1 rfl) ?_
  refine rc_V (fr := 0) (lo := 0) (As := [.int x]) (rest := [.ref o]) hF (m_X5_isWay l D cI o a mm x) ke_X5_isWay wd_l_X5_95 (by decide) mo_blind (fun U hU hv => ⟨by rw [hU]; exact hM, hK.moved hv⟩) (mo_recv hK hM) rfl hl.1 rfl (Nat.le_of_ble_eq_true rfl) dX5_waiting_3 hf (fun r1 hr1 => ?_)
  refine mo_iV (fr := 0) (lo := 0) (As := [.int r1]) (rest := []) hF (m_X5_asks l D cI o a mm hMD r1 (sp_wy mm x) hr1) ke_X5_asks wd_l_X5_83 (by decide) hK hM hS hA rfl hl.1 rfl (Nat.le_of_ble_eq_true rfl) dX5_waiting_6 hf (fun r2 mm3 H locs hr2 hM hS _ _ => ?_)
  obtain ⟨hr2, hmm3⟩ := hr2
  subst hmm3
  have hbr2 := hr2.trans hr1
  refine bo_eq (tgt := 21) hbr2 hx hb dX5_waiting_9 (by decide) (fun cP => ?_) (fun cP => ?_)
  · skip
    rw [if_neg cP] at hM
    refine lv_iconst (v := 0) hx hb dX5_waiting_21 (by decide) ?_
    exact mo_iret hx hb hr hlk hK hM hS (by first | (rw [sp_ofway, if_neg cP]; done) | (rw [sp_ofway, if_pos cP, nt_c (by omega)]; done)) dX5_waiting_22
  · skip
    rw [if_pos cP] at hM
    have hW40 := hI.W40
    obtain ⟨wi, hwi, rfl⟩ := nt_wy hI cP
    refine lv_aload_n hx hb dX5_waiting_12 rfl (lv_at hl 0 rfl) ?_
    refine mo_get hF hK hM 9 (by decide) wd_f_X5_34 rfl dX5_waiting_13 ?_
    refine lv_iload_n hx hb dX5_waiting_16 rfl (lv_at hl 1 rfl) ?_
    refine mo_ald hF hK hM 9 wi (by decide) rfl (show wi < 40 by omega) dX5_waiting_17 ?_
    refine bo_to (v := (mm 9 wi)) (up2_c (by decide)) ?_
    refine lv_goto (tgt := 22) hx hb dX5_waiting_18 (by decide) ?_
    exact mo_iret hx hb hr hlk hK hM hS (by first | (rw [sp_ofway, if_neg cP]; done) | (rw [sp_ofway, if_pos cP, nt_c (by omega)]; done)) dX5_waiting_22
theorem ke_X5_sightings : wl_V RX5 yX5_sightings cX5_sightings 2 (some .int) 1 := ⟨wd_c_X5_sightings, wd_i_X5_sightings, wd_s_X5_sightings, wd_n_X5, by decide, by decide +kernel⟩
set_option maxHeartbeats 4000000 in
set_option maxRecDepth 100000 in
theorem m_X5_sightings (l : Launch) (D : va_G) (cI : ClassId) (o : Nat) (a : Nat → Nat) (mm : q_Mem) (hMD : mo_D o a) (x : Int32) (hI : Inv mm) : mo_Ci l yX5_sightings cX5_sightings 2 (some .int) 1 21 D cI o a mm [.int x] (fun r m1 => (r, m1) = sp_ofway 17 mm x) := by
  refine mo_ofQ (by decide) (Nat.le_of_ble_eq_true rfl) ?_
  intro p e s m args below meth c hx hb hr hF hlk hM hK hS ls hl
  have hA : ∀ q, mo_R o a q → mo_R o a q := fun _ h => h
  have hl : lv_has ls 2 [(0, .ref o), (1, .int x)] := hl
  have hf : (0 : Nat) ≤ 0 ∧ (0 : Nat) ≤ 0 := ⟨Nat.le_refl 0, Nat.le_refl 0⟩
  refine lv_aload_n hx hb dX5_sightings_0 rfl (lv_at hl 0 rfl) ?_
  refine lv_aload_n hx hb dX5_sightings_1 rfl (lv_at hl 0 rfl) ?_
  refine lv_iload_n hx hb dX5_sightings_2 rfl (lv_at hl 1 rfl) ?_
  refine rc_V (fr := 0) (lo := 0) (As := [.int x]) (rest := [.ref o]) hF (m_X5_isWay l D cI o a mm x) ke_X5_isWay wd_l_X5_95 (by decide) mo_blind (fun U hU hv => ⟨by rw [hU]; exact hM, hK.moved hv⟩) (mo_recv hK hM) rfl hl.1 rfl (Nat.le_of_ble_eq_true rfl) dX5_sightings_3 hf (fun r1 hr1 => ?_)
  refine mo_iV (fr := 0) (lo := 0) (As := [.int r1]) (rest := []) hF (m_X5_asks l D cI o a mm hMD r1 (sp_wy mm x) hr1) ke_X5_asks wd_l_X5_83 (by decide) hK hM hS hA rfl hl.1 rfl (Nat.le_of_ble_eq_true rfl) dX5_sightings_6 hf (fun r2 mm3 H locs hr2 hM hS _ _ => ?_)
  obtain ⟨hr2, hmm3⟩ := hr2
  subst hmm3
  have hbr2 := hr2.trans hr1
  refine bo_eq (tgt := 21) hbr2 hx hb dX5_sightings_9 (by decide) (fun cP => ?_) (fun cP => ?_)
  · skip
    rw [if_neg cP] at hM
    refine lv_iconst (v := 0) hx hb dX5_sightings_21 (by decide) ?_
    exact mo_iret hx hb hr hlk hK hM hS (by first | (rw [sp_ofway, if_neg cP]; done) | (rw [sp_ofway, if_pos cP, nt_c (by omega)]; done)) dX5_sightings_22
  · skip
    rw [if_pos cP] at hM
    have hW40 := hI.W40
    obtain ⟨wi, hwi, rfl⟩ := nt_wy hI cP
    refine lv_aload_n hx hb dX5_sightings_12 rfl (lv_at hl 0 rfl) ?_
    refine mo_get hF hK hM 17 (by decide) wd_f_X5_55 rfl dX5_sightings_13 ?_
    refine lv_iload_n hx hb dX5_sightings_16 rfl (lv_at hl 1 rfl) ?_
    refine mo_ald hF hK hM 17 wi (by decide) rfl (show wi < 40 by omega) dX5_sightings_17 ?_
    refine bo_to (v := (mm 17 wi)) (up2_c (by decide)) ?_
    refine lv_goto (tgt := 22) hx hb dX5_sightings_18 (by decide) ?_
    exact mo_iret hx hb hr hlk hK hM hS (by first | (rw [sp_ofway, if_neg cP]; done) | (rw [sp_ofway, if_pos cP, nt_c (by omega)]; done)) dX5_sightings_22
