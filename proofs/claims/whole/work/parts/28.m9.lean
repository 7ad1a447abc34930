theorem dX5_dear_0 : decode cX5_dear 0 = .ok (.aload_n 0, 1) := by decide +kernel
theorem dX5_dear_1 : decode cX5_dear 1 = .ok (.aload_n 0, 1) := by decide +kernel
theorem dX5_dear_2 : decode cX5_dear 2 = .ok (.iload_n 1, 1) := by decide +kernel
theorem dX5_dear_3 : decode cX5_dear 3 = .ok (.invokevirtual 95, 3) := by decide +kernel
theorem dX5_dear_6 : decode cX5_dear 6 = .ok (.invokevirtual 83, 3) := by decide +kernel
theorem dX5_dear_9 : decode cX5_dear 9 = .ok (.ifCond .eq 11, 3) := by decide +kernel
theorem dX5_dear_12 : decode cX5_dear 12 = .ok (.aload_n 0, 1) := by decide +kernel
theorem dX5_dear_13 : decode cX5_dear 13 = .ok (.iload_n 1, 1) := by decide +kernel
theorem dX5_dear_14 : decode cX5_dear 14 = .ok (.invokevirtual 152, 3) := by decide +kernel
theorem dX5_dear_17 : decode cX5_dear 17 = .ok (.goto 4, 3) := by decide +kernel
theorem dX5_dear_20 : decode cX5_dear 20 = .ok (.iconst 0, 1) := by decide +kernel
theorem dX5_dear_21 : decode cX5_dear 21 = .ok (.ireturn, 1) := by decide +kernel
theorem dX5_nearest_0 : decode cX5_nearest 0 = .ok (.aload_n 0, 1) := by decide +kernel
theorem dX5_nearest_1 : decode cX5_nearest 1 = .ok (.iload_n 1, 1) := by decide +kernel
theorem dX5_nearest_2 : decode cX5_nearest 2 = .ok (.aload_n 0, 1) := by decide +kernel
theorem dX5_nearest_3 : decode cX5_nearest 3 = .ok (.getfield 13, 3) := by decide +kernel
theorem dX5_nearest_6 : decode cX5_nearest 6 = .ok (.iload_n 2, 1) := by decide +kernel
theorem dX5_nearest_7 : decode cX5_nearest 7 = .ok (.iaload, 1) := by decide +kernel
theorem dX5_nearest_8 : decode cX5_nearest 8 = .ok (.aload_n 0, 1) := by decide +kernel
theorem dX5_nearest_9 : decode cX5_nearest 9 = .ok (.getfield 16, 3) := by decide +kernel
theorem dX5_nearest_12 : decode cX5_nearest 12 = .ok (.iload_n 2, 1) := by decide +kernel
theorem dX5_nearest_13 : decode cX5_nearest 13 = .ok (.iaload, 1) := by decide +kernel
theorem dX5_nearest_14 : decode cX5_nearest 14 = .ok (.invokevirtual 137, 3) := by decide +kernel
theorem dX5_nearest_17 : decode cX5_nearest 17 = .ok (.istore_n 3, 1) := by decide +kernel
theorem dX5_nearest_18 : decode cX5_nearest 18 = .ok (.aload_n 0, 1) := by decide +kernel
theorem dX5_nearest_19 : decode cX5_nearest 19 = .ok (.iload_n 1, 1) := by decide +kernel
theorem dX5_nearest_20 : decode cX5_nearest 20 = .ok (.aload_n 0, 1) := by decide +kernel
theorem dX5_nearest_21 : decode cX5_nearest 21 = .ok (.getfield 19, 3) := by decide +kernel
theorem dX5_nearest_24 : decode cX5_nearest 24 = .ok (.iload_n 2, 1) := by decide +kernel
theorem dX5_nearest_25 : decode cX5_nearest 25 = .ok (.iaload, 1) := by decide +kernel
theorem dX5_nearest_26 : decode cX5_nearest 26 = .ok (.aload_n 0, 1) := by decide +kernel
theorem dX5_nearest_27 : decode cX5_nearest 27 = .ok (.getfield 22, 3) := by decide +kernel
theorem dX5_nearest_30 : decode cX5_nearest 30 = .ok (.iload_n 2, 1) := by decide +kernel
theorem dX5_nearest_31 : decode cX5_nearest 31 = .ok (.iaload, 1) := by decide +kernel
theorem dX5_nearest_32 : decode cX5_nearest 32 = .ok (.invokevirtual 137, 3) := by decide +kernel
theorem dX5_nearest_35 : decode cX5_nearest 35 = .ok (.istore 4, 2) := by decide +kernel
theorem dX5_nearest_37 : decode cX5_nearest 37 = .ok (.iload_n 3, 1) := by decide +kernel
theorem dX5_nearest_38 : decode cX5_nearest 38 = .ok (.iload 4, 2) := by decide +kernel
theorem dX5_nearest_40 : decode cX5_nearest 40 = .ok (.if_icmp .ge 7, 3) := by decide +kernel
theorem dX5_nearest_43 : decode cX5_nearest 43 = .ok (.iload_n 3, 1) := by decide +kernel
theorem dX5_nearest_44 : decode cX5_nearest 44 = .ok (.goto 5, 3) := by decide +kernel
theorem dX5_nearest_47 : decode cX5_nearest 47 = .ok (.iload 4, 2) := by decide +kernel
theorem dX5_nearest_49 : decode cX5_nearest 49 = .ok (.ireturn, 1) := by decide +kernel
theorem dX5_see_0 : decode cX5_see 0 = .ok (.aload_n 0, 1) := by decide +kernel
theorem dX5_see_1 : decode cX5_see 1 = .ok (.iload_n 1, 1) := by decide +kernel
theorem dX5_see_2 : decode cX5_see 2 = .ok (.invokestatic 140, 3) := by decide +kernel
theorem dX5_see_5 : decode cX5_see 5 = .ok (.ifCond .eq 15, 3) := by decide +kernel
theorem dX5_see_8 : decode cX5_see 8 = .ok (.aload_n 0, 1) := by decide +kernel
theorem dX5_see_9 : decode cX5_see 9 = .ok (.iload_n 2, 1) := by decide +kernel
theorem dX5_see_10 : decode cX5_see 10 = .ok (.invokevirtual 95, 3) := by decide +kernel
theorem dX5_see_13 : decode cX5_see 13 = .ok (.ifCond .eq 7, 3) := by decide +kernel
theorem dX5_see_16 : decode cX5_see 16 = .ok (.iconst 1, 1) := by decide +kernel
theorem dX5_see_17 : decode cX5_see 17 = .ok (.goto 4, 3) := by decide +kernel
theorem dX5_see_20 : decode cX5_see 20 = .ok (.iconst 0, 1) := by decide +kernel
theorem dX5_see_21 : decode cX5_see 21 = .ok (.invokevirtual 83, 3) := by decide +kernel
theorem dX5_see_24 : decode cX5_see 24 = .ok (.ifCond .ne 5, 3) := by decide +kernel
theorem dX5_see_27 : decode cX5_see 27 = .ok (.iconst 0, 1) := by decide +kernel
theorem dX5_see_28 : decode cX5_see 28 = .ok (.ireturn, 1) := by decide +kernel
theorem dX5_see_29 : decode cX5_see 29 = .ok (.iload_n 3, 1) := by decide +kernel
theorem dX5_see_30 : decode cX5_see 30 = .ok (.iconst 0, 1) := by decide +kernel
theorem dX5_see_31 : decode cX5_see 31 = .ok (.iconst 2, 1) := by decide +kernel
theorem dX5_see_32 : decode cX5_see 32 = .ok (.invokestatic 65, 3) := by decide +kernel
theorem dX5_see_35 : decode cX5_see 35 = .ok (.ifCond .eq 14, 3) := by decide +kernel
theorem dX5_see_38 : decode cX5_see 38 = .ok (.iload 4, 2) := by decide +kernel
theorem dX5_see_40 : decode cX5_see 40 = .ok (.iconst 0, 1) := by decide +kernel
theorem dX5_see_41 : decode cX5_see 41 = .ok (.bipush 99, 2) := by decide +kernel
theorem dX5_see_43 : decode cX5_see 43 = .ok (.invokestatic 65, 3) := by decide +kernel
theorem dX5_see_46 : decode cX5_see 46 = .ok (.ifCond .ne 10, 3) := by decide +kernel
theorem dX5_see_49 : decode cX5_see 49 = .ok (.aload_n 0, 1) := by decide +kernel
theorem dX5_see_50 : decode cX5_see 50 = .ok (.iconst 2, 1) := by decide +kernel
theorem dX5_see_51 : decode cX5_see 51 = .ok (.putfield 61, 3) := by decide +kernel
theorem dX5_see_54 : decode cX5_see 54 = .ok (.iconst 0, 1) := by decide +kernel
theorem dX5_see_55 : decode cX5_see 55 = .ok (.ireturn, 1) := by decide +kernel
theorem dX5_see_56 : decode cX5_see 56 = .ok (.aload_n 0, 1) := by decide +kernel
theorem dX5_see_57 : decode cX5_see 57 = .ok (.iload_n 1, 1) := by decide +kernel
theorem dX5_see_58 : decode cX5_see 58 = .ok (.aload_n 0, 1) := by decide +kernel
theorem dX5_see_59 : decode cX5_see 59 = .ok (.getfield 13, 3) := by decide +kernel
theorem dX5_see_62 : decode cX5_see 62 = .ok (.iload_n 2, 1) := by decide +kernel
theorem dX5_see_63 : decode cX5_see 63 = .ok (.iaload, 1) := by decide +kernel
theorem dX5_see_64 : decode cX5_see 64 = .ok (.aload_n 0, 1) := by decide +kernel
theorem dX5_see_65 : decode cX5_see 65 = .ok (.getfield 16, 3) := by decide +kernel
theorem dX5_see_68 : decode cX5_see 68 = .ok (.iload_n 2, 1) := by decide +kernel
theorem dX5_see_69 : decode cX5_see 69 = .ok (.iaload, 1) := by decide +kernel
theorem dX5_see_70 : decode cX5_see 70 = .ok (.invokevirtual 137, 3) := by decide +kernel
theorem dX5_see_73 : decode cX5_see 73 = .ok (.ifCond .le 30, 3) := by decide +kernel
theorem dX5_see_76 : decode cX5_see 76 = .ok (.aload_n 0, 1) := by decide +kernel
theorem dX5_see_77 : decode cX5_see 77 = .ok (.iload_n 1, 1) := by decide +kernel
theorem dX5_see_78 : decode cX5_see 78 = .ok (.aload_n 0, 1) := by decide +kernel
theorem dX5_see_79 : decode cX5_see 79 = .ok (.getfield 19, 3) := by decide +kernel
theorem dX5_see_82 : decode cX5_see 82 = .ok (.iload_n 2, 1) := by decide +kernel
theorem dX5_see_83 : decode cX5_see 83 = .ok (.iaload, 1) := by decide +kernel
theorem dX5_see_84 : decode cX5_see 84 = .ok (.aload_n 0, 1) := by decide +kernel
theorem dX5_see_85 : decode cX5_see 85 = .ok (.getfield 22, 3) := by decide +kernel
theorem dX5_see_88 : decode cX5_see 88 = .ok (.iload_n 2, 1) := by decide +kernel
theorem dX5_see_89 : decode cX5_see 89 = .ok (.iaload, 1) := by decide +kernel
theorem dX5_see_90 : decode cX5_see 90 = .ok (.invokevirtual 137, 3) := by decide +kernel
theorem dX5_see_93 : decode cX5_see 93 = .ok (.ifCond .le 10, 3) := by decide +kernel
theorem dX5_see_96 : decode cX5_see 96 = .ok (.aload_n 0, 1) := by decide +kernel
theorem dX5_see_97 : decode cX5_see 97 = .ok (.iconst 3, 1) := by decide +kernel
theorem dX5_see_98 : decode cX5_see 98 = .ok (.putfield 61, 3) := by decide +kernel
theorem dX5_see_101 : decode cX5_see 101 = .ok (.iconst 0, 1) := by decide +kernel
theorem dX5_see_102 : decode cX5_see 102 = .ok (.ireturn, 1) := by decide +kernel
theorem dX5_see_103 : decode cX5_see 103 = .ok (.aload_n 0, 1) := by decide +kernel
theorem dX5_see_104 : decode cX5_see 104 = .ok (.iload_n 2, 1) := by decide +kernel
theorem dX5_see_105 : decode cX5_see 105 = .ok (.iload_n 1, 1) := by decide +kernel
theorem dX5_see_106 : decode cX5_see 106 = .ok (.iload_n 3, 1) := by decide +kernel
theorem dX5_see_107 : decode cX5_see 107 = .ok (.iload 4, 2) := by decide +kernel
theorem dX5_see_109 : decode cX5_see 109 = .ok (.invokevirtual 146, 3) := by decide +kernel
theorem dX5_see_112 : decode cX5_see 112 = .ok (.aload_n 0, 1) := by decide +kernel
theorem dX5_see_113 : decode cX5_see 113 = .ok (.getfield 58, 3) := by decide +kernel
theorem dX5_see_116 : decode cX5_see 116 = .ok (.bipush 9, 2) := by decide +kernel
theorem dX5_see_118 : decode cX5_see 118 = .ok (.iload_n 2, 1) := by decide +kernel
theorem dX5_see_119 : decode cX5_see 119 = .ok (.imul, 1) := by decide +kernel
theorem dX5_see_120 : decode cX5_see 120 = .ok (.aload_n 0, 1) := by decide +kernel
theorem dX5_see_121 : decode cX5_see 121 = .ok (.getfield 55, 3) := by decide +kernel
theorem dX5_see_124 : decode cX5_see 124 = .ok (.iload_n 2, 1) := by decide +kernel
theorem dX5_see_125 : decode cX5_see 125 = .ok (.iaload, 1) := by decide +kernel
theorem dX5_see_126 : decode cX5_see 126 = .ok (.iadd, 1) := by decide +kernel
theorem dX5_see_127 : decode cX5_see 127 = .ok (.iload_n 1, 1) := by decide +kernel
theorem dX5_see_128 : decode cX5_see 128 = .ok (.iconst 4, 1) := by decide +kernel
theorem dX5_see_129 : decode cX5_see 129 = .ok (.iload_n 3, 1) := by decide +kernel
theorem dX5_see_130 : decode cX5_see 130 = .ok (.imul, 1) := by decide +kernel
theorem dX5_see_131 : decode cX5_see 131 = .ok (.iadd, 1) := by decide +kernel
theorem dX5_see_132 : decode cX5_see 132 = .ok (.bipush 16, 2) := by decide +kernel
theorem dX5_see_134 : decode cX5_see 134 = .ok (.iload 4, 2) := by decide +kernel
theorem dX5_see_136 : decode cX5_see 136 = .ok (.imul, 1) := by decide +kernel
theorem dX5_see_137 : decode cX5_see 137 = .ok (.iadd, 1) := by decide +kernel
theorem dX5_see_138 : decode cX5_see 138 = .ok (.iastore, 1) := by decide +kernel
theorem dX5_see_139 : decode cX5_see 139 = .ok (.aload_n 0, 1) := by decide +kernel
theorem dX5_see_140 : decode cX5_see 140 = .ok (.getfield 55, 3) := by decide +kernel
theorem dX5_see_143 : decode cX5_see 143 = .ok (.iload_n 2, 1) := by decide +kernel
theorem dX5_see_144 : decode cX5_see 144 = .ok (.dup2, 1) := by decide +kernel
theorem dX5_see_145 : decode cX5_see 145 = .ok (.iaload, 1) := by decide +kernel
theorem dX5_see_146 : decode cX5_see 146 = .ok (.iconst 1, 1) := by decide +kernel
theorem dX5_see_147 : decode cX5_see 147 = .ok (.iadd, 1) := by decide +kernel
theorem dX5_see_148 : decode cX5_see 148 = .ok (.iastore, 1) := by decide +kernel
theorem dX5_see_149 : decode cX5_see 149 = .ok (.aload_n 0, 1) := by decide +kernel
theorem dX5_see_150 : decode cX5_see 150 = .ok (.iload_n 2, 1) := by decide +kernel
theorem dX5_see_151 : decode cX5_see 151 = .ok (.invokevirtual 101, 3) := by decide +kernel
theorem dX5_see_154 : decode cX5_see 154 = .ok (.iload_n 3, 1) := by decide +kernel
theorem dX5_see_155 : decode cX5_see 155 = .ok (.if_icmp .eq 16, 3) := by decide +kernel
theorem dX5_see_158 : decode cX5_see 158 = .ok (.aload_n 0, 1) := by decide +kernel
theorem dX5_see_159 : decode cX5_see 159 = .ok (.iload_n 2, 1) := by decide +kernel
theorem dX5_see_160 : decode cX5_see 160 = .ok (.iload_n 3, 1) := by decide +kernel
theorem dX5_see_161 : decode cX5_see 161 = .ok (.invokevirtual 149, 3) := by decide +kernel
theorem dX5_see_164 : decode cX5_see 164 = .ok (.ifCond .eq 7, 3) := by decide +kernel
theorem dX5_see_167 : decode cX5_see 167 = .ok (.iconst 1, 1) := by decide +kernel
theorem dX5_see_168 : decode cX5_see 168 = .ok (.goto 4, 3) := by decide +kernel
theorem dX5_see_171 : decode cX5_see 171 = .ok (.iconst 0, 1) := by decide +kernel
theorem dX5_see_172 : decode cX5_see 172 = .ok (.istore 5, 2) := by decide +kernel
theorem dX5_see_174 : decode cX5_see 174 = .ok (.iload 5, 2) := by decide +kernel
theorem dX5_see_176 : decode cX5_see 176 = .ok (.ifCond .eq 22, 3) := by decide +kernel
theorem dX5_see_179 : decode cX5_see 179 = .ok (.aload_n 0, 1) := by decide +kernel
theorem dX5_see_180 : decode cX5_see 180 = .ok (.iload_n 2, 1) := by decide +kernel
theorem dX5_see_181 : decode cX5_see 181 = .ok (.aload_n 0, 1) := by decide +kernel
theorem dX5_see_182 : decode cX5_see 182 = .ok (.iload_n 2, 1) := by decide +kernel
theorem dX5_see_183 : decode cX5_see 183 = .ok (.invokevirtual 98, 3) := by decide +kernel
theorem dX5_see_186 : decode cX5_see 186 = .ok (.iload_n 3, 1) := by decide +kernel
theorem dX5_see_187 : decode cX5_see 187 = .ok (.iconst (-1), 1) := by decide +kernel
theorem dX5_see_188 : decode cX5_see 188 = .ok (.invokevirtual 91, 3) := by decide +kernel
theorem dX5_see_191 : decode cX5_see 191 = .ok (.aload_n 0, 1) := by decide +kernel
theorem dX5_see_192 : decode cX5_see 192 = .ok (.getfield 55, 3) := by decide +kernel
theorem dX5_see_195 : decode cX5_see 195 = .ok (.iload_n 2, 1) := by decide +kernel
theorem dX5_see_196 : decode cX5_see 196 = .ok (.iconst 0, 1) := by decide +kernel
theorem dX5_see_197 : decode cX5_see 197 = .ok (.iastore, 1) := by decide +kernel
theorem dX5_see_198 : decode cX5_see 198 = .ok (.iload 5, 2) := by decide +kernel
theorem dX5_see_200 : decode cX5_see 200 = .ok (.ireturn, 1) := by decide +kernel
theorem dX5_send_0 : decode cX5_send 0 = .ok (.aload_n 0, 1) := by decide +kernel
theorem dX5_send_1 : decode cX5_send 1 = .ok (.iload_n 1, 1) := by decide +kernel
theorem dX5_send_2 : decode cX5_send 2 = .ok (.invokestatic 140, 3) := by decide +kernel
theorem dX5_send_5 : decode cX5_send 5 = .ok (.invokevirtual 83, 3) := by decide +kernel
theorem dX5_send_8 : decode cX5_send 8 = .ok (.ifCond .ne 5, 3) := by decide +kernel
theorem dX5_send_11 : decode cX5_send 11 = .ok (.iconst 0, 1) := by decide +kernel
theorem dX5_send_12 : decode cX5_send 12 = .ok (.ireturn, 1) := by decide +kernel
theorem dX5_send_13 : decode cX5_send 13 = .ok (.aload_n 0, 1) := by decide +kernel
theorem dX5_send_14 : decode cX5_send 14 = .ok (.iload_n 1, 1) := by decide +kernel
theorem dX5_send_15 : decode cX5_send 15 = .ok (.invokevirtual 158, 3) := by decide +kernel
theorem dX5_send_18 : decode cX5_send 18 = .ok (.istore_n 2, 1) := by decide +kernel
theorem dX5_send_19 : decode cX5_send 19 = .ok (.iload_n 2, 1) := by decide +kernel
theorem dX5_send_20 : decode cX5_send 20 = .ok (.iconst (-1), 1) := by decide +kernel
theorem dX5_send_21 : decode cX5_send 21 = .ok (.if_icmp .ne 9, 3) := by decide +kernel
theorem dX5_send_24 : decode cX5_send 24 = .ok (.aload_n 0, 1) := by decide +kernel
theorem dX5_send_25 : decode cX5_send 25 = .ok (.iconst 2, 1) := by decide +kernel
theorem dX5_send_26 : decode cX5_send 26 = .ok (.invokevirtual 87, 3) := by decide +kernel
theorem dX5_send_29 : decode cX5_send 29 = .ok (.ireturn, 1) := by decide +kernel
theorem dX5_send_30 : decode cX5_send 30 = .ok (.aload_n 0, 1) := by decide +kernel
theorem dX5_send_31 : decode cX5_send 31 = .ok (.iload_n 1, 1) := by decide +kernel
theorem dX5_send_32 : decode cX5_send 32 = .ok (.aload_n 0, 1) := by decide +kernel
theorem dX5_send_33 : decode cX5_send 33 = .ok (.getfield 13, 3) := by decide +kernel
theorem dX5_send_36 : decode cX5_send 36 = .ok (.iload_n 2, 1) := by decide +kernel
theorem dX5_send_37 : decode cX5_send 37 = .ok (.iaload, 1) := by decide +kernel
theorem dX5_send_38 : decode cX5_send 38 = .ok (.aload_n 0, 1) := by decide +kernel
theorem dX5_send_39 : decode cX5_send 39 = .ok (.getfield 16, 3) := by decide +kernel
theorem dX5_send_42 : decode cX5_send 42 = .ok (.iload_n 2, 1) := by decide +kernel
theorem dX5_send_43 : decode cX5_send 43 = .ok (.iaload, 1) := by decide +kernel
theorem dX5_send_44 : decode cX5_send 44 = .ok (.invokevirtual 137, 3) := by decide +kernel
theorem dX5_send_47 : decode cX5_send 47 = .ok (.aload_n 0, 1) := by decide +kernel
theorem dX5_send_48 : decode cX5_send 48 = .ok (.iload_n 1, 1) := by decide +kernel
theorem dX5_send_49 : decode cX5_send 49 = .ok (.aload_n 0, 1) := by decide +kernel
theorem dX5_send_50 : decode cX5_send 50 = .ok (.getfield 19, 3) := by decide +kernel
theorem dX5_send_53 : decode cX5_send 53 = .ok (.iload_n 2, 1) := by decide +kernel
theorem dX5_send_54 : decode cX5_send 54 = .ok (.iaload, 1) := by decide +kernel
theorem dX5_send_55 : decode cX5_send 55 = .ok (.aload_n 0, 1) := by decide +kernel
theorem dX5_send_56 : decode cX5_send 56 = .ok (.getfield 22, 3) := by decide +kernel
theorem dX5_send_59 : decode cX5_send 59 = .ok (.iload_n 2, 1) := by decide +kernel
theorem dX5_send_60 : decode cX5_send 60 = .ok (.iaload, 1) := by decide +kernel
theorem dX5_send_61 : decode cX5_send 61 = .ok (.invokevirtual 137, 3) := by decide +kernel
theorem dX5_send_64 : decode cX5_send 64 = .ok (.if_icmp .gt 7, 3) := by decide +kernel
theorem dX5_send_67 : decode cX5_send 67 = .ok (.iconst 1, 1) := by decide +kernel
theorem dX5_send_68 : decode cX5_send 68 = .ok (.goto 4, 3) := by decide +kernel
theorem dX5_send_71 : decode cX5_send 71 = .ok (.iconst 0, 1) := by decide +kernel
theorem dX5_send_72 : decode cX5_send 72 = .ok (.istore_n 3, 1) := by decide +kernel
theorem dX5_send_73 : decode cX5_send 73 = .ok (.aload_n 0, 1) := by decide +kernel
theorem dX5_send_74 : decode cX5_send 74 = .ok (.iload_n 1, 1) := by decide +kernel
theorem dX5_send_75 : decode cX5_send 75 = .ok (.iload_n 3, 1) := by decide +kernel
theorem dX5_send_76 : decode cX5_send 76 = .ok (.ifCond .eq 12, 3) := by decide +kernel
theorem dX5_send_79 : decode cX5_send 79 = .ok (.aload_n 0, 1) := by decide +kernel
theorem dX5_send_80 : decode cX5_send 80 = .ok (.getfield 13, 3) := by decide +kernel
theorem dX5_send_83 : decode cX5_send 83 = .ok (.iload_n 2, 1) := by decide +kernel
theorem dX5_send_84 : decode cX5_send 84 = .ok (.iaload, 1) := by decide +kernel
theorem dX5_send_85 : decode cX5_send 85 = .ok (.goto 9, 3) := by decide +kernel
theorem dX5_send_88 : decode cX5_send 88 = .ok (.aload_n 0, 1) := by decide +kernel
theorem dX5_send_89 : decode cX5_send 89 = .ok (.getfield 19, 3) := by decide +kernel
theorem dX5_send_92 : decode cX5_send 92 = .ok (.iload_n 2, 1) := by decide +kernel
theorem dX5_send_93 : decode cX5_send 93 = .ok (.iaload, 1) := by decide +kernel
theorem dX5_send_94 : decode cX5_send 94 = .ok (.iload_n 3, 1) := by decide +kernel
theorem dX5_send_95 : decode cX5_send 95 = .ok (.ifCond .eq 12, 3) := by decide +kernel
theorem dX5_send_98 : decode cX5_send 98 = .ok (.aload_n 0, 1) := by decide +kernel
theorem dX5_send_99 : decode cX5_send 99 = .ok (.getfield 16, 3) := by decide +kernel
theorem dX5_send_102 : decode cX5_send 102 = .ok (.iload_n 2, 1) := by decide +kernel
theorem dX5_send_103 : decode cX5_send 103 = .ok (.iaload, 1) := by decide +kernel
theorem dX5_send_104 : decode cX5_send 104 = .ok (.goto 9, 3) := by decide +kernel
theorem dX5_send_107 : decode cX5_send 107 = .ok (.aload_n 0, 1) := by decide +kernel
theorem dX5_send_108 : decode cX5_send 108 = .ok (.getfield 22, 3) := by decide +kernel
theorem dX5_send_111 : decode cX5_send 111 = .ok (.iload_n 2, 1) := by decide +kernel
theorem dX5_send_112 : decode cX5_send 112 = .ok (.iaload, 1) := by decide +kernel
theorem dX5_send_113 : decode cX5_send 113 = .ok (.invokevirtual 143, 3) := by decide +kernel
theorem dX5_send_116 : decode cX5_send 116 = .ok (.ireturn, 1) := by decide +kernel
theorem dX5_target_0 : decode cX5_target 0 = .ok (.aload_n 0, 1) := by decide +kernel
theorem dX5_target_1 : decode cX5_target 1 = .ok (.iload_n 1, 1) := by decide +kernel
theorem dX5_target_2 : decode cX5_target 2 = .ok (.invokestatic 140, 3) := by decide +kernel
theorem dX5_target_5 : decode cX5_target 5 = .ok (.invokevirtual 83, 3) := by decide +kernel
theorem dX5_target_8 : decode cX5_target 8 = .ok (.ifCond .eq 11, 3) := by decide +kernel
theorem dX5_target_11 : decode cX5_target 11 = .ok (.aload_n 0, 1) := by decide +kernel
theorem dX5_target_12 : decode cX5_target 12 = .ok (.iload_n 1, 1) := by decide +kernel
theorem dX5_target_13 : decode cX5_target 13 = .ok (.invokevirtual 158, 3) := by decide +kernel
theorem dX5_target_16 : decode cX5_target 16 = .ok (.goto 4, 3) := by decide +kernel
theorem dX5_target_19 : decode cX5_target 19 = .ok (.iconst 0, 1) := by decide +kernel
theorem dX5_target_20 : decode cX5_target 20 = .ok (.ireturn, 1) := by decide +kernel
theorem dX5_targetOf_0 : decode cX5_targetOf 0 = .ok (.iconst (-1), 1) := by decide +kernel
theorem dX5_targetOf_1 : decode cX5_targetOf 1 = .ok (.istore_n 2, 1) := by decide +kernel
theorem dX5_targetOf_2 : decode cX5_targetOf 2 = .ok (.iconst 0, 1) := by decide +kernel
theorem dX5_targetOf_3 : decode cX5_targetOf 3 = .ok (.istore_n 3, 1) := by decide +kernel
theorem dX5_targetOf_4 : decode cX5_targetOf 4 = .ok (.iconst 0, 1) := by decide +kernel
theorem dX5_targetOf_5 : decode cX5_targetOf 5 = .ok (.istore 4, 2) := by decide +kernel
theorem dX5_targetOf_7 : decode cX5_targetOf 7 = .ok (.iload 4, 2) := by decide +kernel
theorem dX5_targetOf_9 : decode cX5_targetOf 9 = .ok (.aload_n 0, 1) := by decide +kernel
theorem dX5_targetOf_10 : decode cX5_targetOf 10 = .ok (.getfield 69, 3) := by decide +kernel
theorem dX5_targetOf_13 : decode cX5_targetOf 13 = .ok (.if_icmp .ge 56, 3) := by decide +kernel
theorem dX5_targetOf_16 : decode cX5_targetOf 16 = .ok (.aload_n 0, 1) := by decide +kernel
theorem dX5_targetOf_17 : decode cX5_targetOf 17 = .ok (.iload 4, 2) := by decide +kernel
theorem dX5_targetOf_19 : decode cX5_targetOf 19 = .ok (.invokevirtual 152, 3) := by decide +kernel
theorem dX5_targetOf_22 : decode cX5_targetOf 22 = .ok (.bipush 100, 2) := by decide +kernel
theorem dX5_targetOf_24 : decode cX5_targetOf 24 = .ok (.imul, 1) := by decide +kernel
theorem dX5_targetOf_25 : decode cX5_targetOf 25 = .ok (.iconst 1, 1) := by decide +kernel
theorem dX5_targetOf_26 : decode cX5_targetOf 26 = .ok (.aload_n 0, 1) := by decide +kernel
theorem dX5_targetOf_27 : decode cX5_targetOf 27 = .ok (.iload_n 1, 1) := by decide +kernel
theorem dX5_targetOf_28 : decode cX5_targetOf 28 = .ok (.iload 4, 2) := by decide +kernel
theorem dX5_targetOf_30 : decode cX5_targetOf 30 = .ok (.invokevirtual 155, 3) := by decide +kernel
theorem dX5_targetOf_33 : decode cX5_targetOf 33 = .ok (.iadd, 1) := by decide +kernel
theorem dX5_targetOf_34 : decode cX5_targetOf 34 = .ok (.idiv, 1) := by decide +kernel
theorem dX5_targetOf_35 : decode cX5_targetOf 35 = .ok (.istore 5, 2) := by decide +kernel
theorem dX5_targetOf_37 : decode cX5_targetOf 37 = .ok (.iload 5, 2) := by decide +kernel
theorem dX5_targetOf_39 : decode cX5_targetOf 39 = .ok (.iload_n 3, 1) := by decide +kernel
theorem dX5_targetOf_40 : decode cX5_targetOf 40 = .ok (.if_icmp .le 8, 3) := by decide +kernel
theorem dX5_targetOf_43 : decode cX5_targetOf 43 = .ok (.iload 4, 2) := by decide +kernel
theorem dX5_targetOf_45 : decode cX5_targetOf 45 = .ok (.goto 4, 3) := by decide +kernel
theorem dX5_targetOf_48 : decode cX5_targetOf 48 = .ok (.iload_n 2, 1) := by decide +kernel
theorem dX5_targetOf_49 : decode cX5_targetOf 49 = .ok (.istore_n 2, 1) := by decide +kernel
theorem dX5_targetOf_50 : decode cX5_targetOf 50 = .ok (.iload 5, 2) := by decide +kernel
theorem dX5_targetOf_52 : decode cX5_targetOf 52 = .ok (.iload_n 3, 1) := by decide +kernel
theorem dX5_targetOf_53 : decode cX5_targetOf 53 = .ok (.if_icmp .le 8, 3) := by decide +kernel
theorem dX5_targetOf_56 : decode cX5_targetOf 56 = .ok (.iload 5, 2) := by decide +kernel
theorem dX5_targetOf_58 : decode cX5_targetOf 58 = .ok (.goto 4, 3) := by decide +kernel
theorem dX5_targetOf_61 : decode cX5_targetOf 61 = .ok (.iload_n 3, 1) := by decide +kernel
theorem dX5_targetOf_62 : decode cX5_targetOf 62 = .ok (.istore_n 3, 1) := by decide +kernel
theorem dX5_targetOf_63 : decode cX5_targetOf 63 = .ok (.iinc 4 1, 3) := by decide +kernel
theorem dX5_targetOf_66 : decode cX5_targetOf 66 = .ok (.goto (-59), 3) := by decide +kernel
theorem dX5_targetOf_69 : decode cX5_targetOf 69 = .ok (.iload_n 2, 1) := by decide +kernel
theorem dX5_targetOf_70 : decode cX5_targetOf 70 = .ok (.ireturn, 1) := by decide +kernel
theorem ke_X5_dear : wl_V RX5 yX5_dear cX5_dear 2 (some .int) 1 := ⟨wd_c_X5_dear, wd_i_X5_dear, wd_s_X5_dear, wd_n_X5, by decide, by decide +kernel⟩
set_option maxHeartbeats 4000000 in
set_option maxRecDepth 100000 in
theorem m_X5_dear (l : Launch) (D : va_G) (cI : ClassId) (o : Nat) (a : Nat → Nat) (mm : q_Mem) (hMD : mo_D o a) (x : Int32) (hI : Inv mm) (hN : ∀ w, w < 40 → sp_N mm w) : mo_Ci l yX5_dear cX5_dear 2 (some .int) 2 46 D cI o a mm [.int x] (fun r m1 => (r, m1) = sp_dear mm x) := by
  refine mo_ofQ (by decide) (Nat.le_of_ble_eq_true rfl) ?_
  intro p e s m args below meth c hx hb hr hF hlk hM hK hS ls hl
  have hA : ∀ q, mo_R o a q → mo_R o a q := fun _ h => h
  have hl : lv_has ls 2 [(0, .ref o), (1, .int x)] := hl
  have hf : (0 : Nat) ≤ 0 ∧ (0 : Nat) ≤ 0 := ⟨Nat.le_refl 0, Nat.le_refl 0⟩
  refine lv_aload_n hx hb dX5_dear_0 rfl (lv_at hl 0 rfl) ?_
  refine lv_aload_n hx hb dX5_dear_1 rfl (lv_at hl 0 rfl) ?_
  refine lv_iload_n hx hb dX5_dear_2 rfl (lv_at hl 1 rfl) ?_
  refine rc_V (fr := 0) (lo := 0) (As := [.int x]) (rest := [.ref o]) hF (m_X5_isWay l D cI o a mm x) ke_X5_isWay wd_l_X5_95 (by decide) mo_blind (fun U hU hv => ⟨by rw [hU]; exact hM, hK.moved hv⟩) (mo_recv hK hM) rfl hl.1 rfl (Nat.le_of_ble_eq_true rfl) dX5_dear_3 hf (fun r1 hr1 => ?_)
  refine mo_iV (fr := 0) (lo := 0) (As := [.int r1]) (rest := []) hF (m_X5_asks l D cI o a mm hMD r1 (sp_wy mm x) hr1) ke_X5_asks wd_l_X5_83 (by decide) hK hM hS hA rfl hl.1 rfl (Nat.le_of_ble_eq_true rfl) dX5_dear_6 hf (fun r2 mm3 H locs hr2 hM hS _ _ => ?_)
  obtain ⟨hr2, hmm3⟩ := hr2
  subst hmm3
  have hbr2 := hr2.trans hr1
  refine bo_eq (tgt := 20) hbr2 hx hb dX5_dear_9 (by decide) (fun cP => ?_) (fun cP => ?_)
  · skip
    rw [if_neg cP] at hM
    refine lv_iconst (v := 0) hx hb dX5_dear_20 (by decide) ?_
    exact mo_iret hx hb hr hlk hK hM hS (by first | (rw [sp_dear, if_neg cP]; done) | (rw [sp_dear, if_pos cP, nt_c (by omega)]; done) | (rw [sp_dear, if_pos cP, nt_c (by omega)]; rfl)) dX5_dear_21
  · skip
    rw [if_pos cP] at hM
    have hW40 := hI.W40
    obtain ⟨wi, hwi, rfl⟩ := nt_wy hI cP
    have hw40 : wi < 40 := by omega
    obtain ⟨n, f, g, h, hS9, hdv⟩ := sn_of (mm := (up2 mm 19 0 0)) hI (hN wi hw40) hwi
    refine lv_aload_n hx hb dX5_dear_12 rfl (lv_at hl 0 rfl) ?_
    refine lv_iload_n hx hb dX5_dear_13 rfl (lv_at hl 1 rfl) ?_
    refine rc_V (fr := 1) (lo := 21) (As := [.int (nI wi)]) (rest := []) hF (m_X5_dearBy l D cI o a (up2 mm 19 0 0) wi n f g h hw40 hS9 (hI.L hwi) (hI.L4200 hwi)) ke_X5_dearBy wd_l_X5_152 (by decide) mo_blind (fun U hU hv => ⟨by rw [hU]; exact hM, hK.moved hv⟩) (mo_recv hK hM) rfl hl.1 rfl (Nat.le_of_ble_eq_true rfl) dX5_dear_14 hf (fun r4 hr4 => ?_)
    rw [hdv] at hr4
    replace hr4 : r4 = sp_dv (up2 mm 19 0 0) wi := hr4
    subst hr4
    refine lv_goto (tgt := 21) hx hb dX5_dear_17 (by decide) ?_
    exact mo_iret hx hb hr hlk hK hM hS (by first | (rw [sp_dear, if_neg cP]; done) | (rw [sp_dear, if_pos cP, nt_c (by omega)]; done) | (rw [sp_dear, if_pos cP, nt_c (by omega)]; rfl)) dX5_dear_21
theorem ke_X5_nearest : wl_V RX5 yX5_nearest cX5_nearest 5 (some .int) 2 := ⟨wd_c_X5_nearest, wd_i_X5_nearest, wd_s_X5_nearest, wd_n_X5, by decide, by decide +kernel⟩
set_option maxHeartbeats 4000000 in
set_option maxRecDepth 100000 in
theorem m_X5_nearest (l : Launch) (D : va_G) (cI : ClassId) (o : Nat) (a : Nat → Nat) (mm : q_Mem) (c1 w : Nat) (hc1 : c1 < 3) (hw : w < 40) : rc_C l yX5_nearest cX5_nearest 5 (some .int) 1 25 [.ref o, .int (nI c1), .int (nI w)] (mo_B D cI o a mm) (fun r => r = sp_nst mm c1 w) := by
  refine rc_of (by decide) (Nat.le_of_ble_eq_true rfl) ?_
  intro p e s m args below meth c hx hb hr hF hlk hB ls hl
  obtain ⟨hM, hK⟩ := hB
  have hl : lv_has ls 5 [(0, .ref o), (1, .int (nI c1)), (2, .int (nI w))] := hl
  have hf : (0 : Nat) ≤ 0 ∧ (0 : Nat) ≤ 0 := ⟨Nat.le_refl 0, Nat.le_refl 0⟩
  refine lv_aload_n hx hb dX5_nearest_0 rfl (lv_at hl 0 rfl) ?_
  refine lv_iload_n hx hb dX5_nearest_1 rfl (lv_at hl 1 rfl) ?_
  refine lv_aload_n hx hb dX5_nearest_2 rfl (lv_at hl 0 rfl) ?_
  refine mo_get hF hK hM 2 (by decide) wd_f_X5_13 rfl dX5_nearest_3 ?_
  refine lv_iload_n hx hb dX5_nearest_6 rfl (lv_at hl 2 rfl) ?_
  refine mo_ald hF hK hM 2 w (by decide) rfl (by exact hw) dX5_nearest_7 ?_
  refine lv_aload_n hx hb dX5_nearest_8 rfl (lv_at hl 0 rfl) ?_
  refine mo_get hF hK hM 3 (by decide) wd_f_X5_16 rfl dX5_nearest_9 ?_
  refine lv_iload_n hx hb dX5_nearest_12 rfl (lv_at hl 2 rfl) ?_
  refine mo_ald hF hK hM 3 w (by decide) rfl (by exact hw) dX5_nearest_13 ?_
  refine rc_V (fr := 0) (lo := 0) (As := [.int (nI c1), .int (mm 2 w), .int (mm 3 w)]) (rest := []) hF (m_X5_far l D cI o a mm c1 (mm 2 w) (mm 3 w) hc1) ke_X5_far wd_l_X5_137 (by decide) mo_blind (fun U hU hv => ⟨by rw [hU]; exact hM, hK.moved hv⟩) (mo_recv hK hM) rfl hl.1 rfl (Nat.le_of_ble_eq_true rfl) dX5_nearest_14 hf (fun r1 hr1 => ?_)
  replace hr1 : r1 = sp_far mm c1 (mm 2 w) (mm 3 w) := hr1
  subst hr1
  refine lv_istore_n (lv' := [(3, .int (sp_far mm c1 (mm 2 w) (mm 3 w))), (0, .ref o), (1, .int (nI c1)), (2, .int (nI w))]) hx hb dX5_nearest_17 rfl hl (by decide) rfl (fun ls hl => ?_)
  refine lv_aload_n hx hb dX5_nearest_18 rfl (lv_at hl 1 rfl) ?_
  refine lv_iload_n hx hb dX5_nearest_19 rfl (lv_at hl 2 rfl) ?_
  refine lv_aload_n hx hb dX5_nearest_20 rfl (lv_at hl 1 rfl) ?_
  refine mo_get hF hK hM 4 (by decide) wd_f_X5_19 rfl dX5_nearest_21 ?_
  refine lv_iload_n hx hb dX5_nearest_24 rfl (lv_at hl 3 rfl) ?_
  refine mo_ald hF hK hM 4 w (by decide) rfl (by exact hw) dX5_nearest_25 ?_
  refine lv_aload_n hx hb dX5_nearest_26 rfl (lv_at hl 1 rfl) ?_
  refine mo_get hF hK hM 5 (by decide) wd_f_X5_22 rfl dX5_nearest_27 ?_
  refine lv_iload_n hx hb dX5_nearest_30 rfl (lv_at hl 3 rfl) ?_
  refine mo_ald hF hK hM 5 w (by decide) rfl (by exact hw) dX5_nearest_31 ?_
  refine rc_V (fr := 0) (lo := 0) (As := [.int (nI c1), .int (mm 4 w), .int (mm 5 w)]) (rest := []) hF (m_X5_far l D cI o a mm c1 (mm 4 w) (mm 5 w) hc1) ke_X5_far wd_l_X5_137 (by decide) mo_blind (fun U hU hv => ⟨by rw [hU]; exact hM, hK.moved hv⟩) (mo_recv hK hM) rfl hl.1 rfl (Nat.le_of_ble_eq_true rfl) dX5_nearest_32 hf (fun r2 hr2 => ?_)
  replace hr2 : r2 = sp_far mm c1 (mm 4 w) (mm 5 w) := hr2
  subst hr2
  refine lv_istore (lv' := [(4, .int (sp_far mm c1 (mm 4 w) (mm 5 w))), (3, .int (sp_far mm c1 (mm 2 w) (mm 3 w))), (0, .ref o), (1, .int (nI c1)), (2, .int (nI w))]) hx hb dX5_nearest_35 hl (by decide) rfl (fun ls hl => ?_)
  refine lv_iload_n hx hb dX5_nearest_37 rfl (lv_at hl 1 rfl) ?_
  refine lv_iload hx hb dX5_nearest_38 (lv_at hl 0 rfl) ?_
  refine lv_icmp_ge (tgt := 47) hx hb dX5_nearest_40 (by decide) (fun c2 => ?_) (fun c2 => ?_)
  · skip
    refine lv_iload hx hb dX5_nearest_47 (lv_at hl 0 rfl) ?_
    exact rc_iret hx hb hr hlk (by first | (rw [sp_nst, if_neg (bo_nlt c2)]; done) | (rw [sp_nst, if_pos (bo_le c2)]; done)) dX5_nearest_49
  · skip
    refine lv_iload_n hx hb dX5_nearest_43 rfl (lv_at hl 1 rfl) ?_
    refine lv_goto (tgt := 49) hx hb dX5_nearest_44 (by decide) ?_
    exact rc_iret hx hb hr hlk (by first | (rw [sp_nst, if_neg (bo_nlt c2)]; done) | (rw [sp_nst, if_pos (bo_le c2)]; done)) dX5_nearest_49
theorem ke_X5_targetOf : wl_V RX5 yX5_targetOf cX5_targetOf 6 (some .int) 1 := ⟨wd_c_X5_targetOf, wd_i_X5_targetOf, wd_s_X5_targetOf, wd_n_X5, by decide, by decide +kernel⟩
set_option maxHeartbeats 4000000 in
set_option maxRecDepth 100000 in
theorem m_X5_targetOf (l : Launch) (D : va_G) (cI : ClassId) (o : Nat) (a : Nat → Nat) (mm : q_Mem) (c1 : Nat) (hc1 : c1 < 3) (hI : Inv mm) (hN : ∀ w, w < 40 → sp_N mm w) : rc_C l yX5_targetOf cX5_targetOf 6 (some .int) 2 49 [.ref o, .int (nI c1)] (mo_B D cI o a mm) (fun r => r = sp_tg mm c1) := by
  refine rc_of (by decide) (Nat.le_of_ble_eq_true rfl) ?_
  intro p e s m args below meth c hx hb hr hF hlk hB ls hl
  obtain ⟨hM, hK⟩ := hB
  have hl : lv_has ls 6 [(0, .ref o), (1, .int (nI c1))] := hl
  have hf : (0 : Nat) ≤ 0 ∧ (0 : Nat) ≤ 0 := ⟨Nat.le_refl 0, Nat.le_refl 0⟩
  have hW40 := hI.W40
  refine lv_iconst (v := (-1)) hx hb dX5_targetOf_0 (by decide) ?_
  refine lv_istore_n (lv' := [(2, .int (-1)), (0, .ref o), (1, .int (nI c1))]) hx hb dX5_targetOf_1 rfl hl (by decide) rfl (fun ls hl => ?_)
  refine lv_iconst (v := 0) hx hb dX5_targetOf_2 (by decide) ?_
  refine lv_istore_n (lv' := [(3, .int 0), (2, .int (-1)), (0, .ref o), (1, .int (nI c1))]) hx hb dX5_targetOf_3 rfl hl (by decide) rfl (fun ls hl => ?_)
  refine lv_iconst (v := 0) hx hb dX5_targetOf_4 (by decide) ?_
  refine lv_istore (lv' := [(4, .int 0), (3, .int 0), (2, .int (-1)), (0, .ref o), (1, .int (nI c1))]) hx hb dX5_targetOf_5 hl (by decide) rfl (fun ls hl => ?_)
  refine bo_loop (σ := Nat) (μ := fun (w : Nat) => sp_W mm - w) (I := fun (w : Nat) (H : Heap) (locs : List Loc) (ls : Array Slot) => H = s.heap ∧ locs = [] ∧ lv_has ls 6 [(2, .int ((tgn mm c1 w).1)), (3, .int ((tgn mm c1 w).2)), (4, .int (nI w)), (0, .ref o), (1, .int (nI c1))] ∧ (w ≤ sp_W mm)) (0) ⟨rfl, rfl, lv_sub hl [2, 1, 0, 3, 4] rfl, Nat.zero_le _⟩ ?_
  intro x7 H locs ls hI7 ih7
  obtain ⟨w, ex7⟩ : ∃ z, z = x7 := ⟨_, rfl⟩
  subst ex7
  obtain ⟨rfl, rfl, hl, hi⟩ := hI7
  refine lv_iload hx hb dX5_targetOf_7 (lv_at hl 2 rfl) ?_
  refine lv_aload_n hx hb dX5_targetOf_9 rfl (lv_at hl 3 rfl) ?_
  refine mo_get hF hK hM 1 (by decide) wd_f_X5_69 rfl dX5_targetOf_10 ?_
  refine bo_to (v := (nI (sp_W mm))) (hI.W) ?_
  refine lv_icmp_ge (tgt := 69) hx hb dX5_targetOf_13 (by decide) (fun c1x => ?_) (fun c1x => ?_)
  · skip
    have hin : w = sp_W mm := by have := (nI_leI (by omega) (by omega)).mp c1x; omega
    refine lv_iload_n hx hb dX5_targetOf_69 rfl (lv_at hl 0 rfl) ?_
    exact rc_iret hx hb hr hlk (by rw [hin]; rfl) dX5_targetOf_70
  · skip
    have hin : w < sp_W mm := by have : ¬ sp_W mm ≤ w := fun z => c1x ((nI_leI (by omega) (by omega)).mpr z); omega
    obtain ⟨n, f, g, h, hS9, hdv⟩ := sn_of hI (hN w (by omega)) hin
    refine lv_aload_n hx hb dX5_targetOf_16 rfl (lv_at hl 3 rfl) ?_
    refine lv_iload hx hb dX5_targetOf_17 (lv_at hl 2 rfl) ?_
    refine rc_V (fr := 1) (lo := 21) (As := [.int (nI w)]) (rest := []) hF (m_X5_dearBy l D cI o a mm w n f g h (by omega) hS9 (hI.L hin) (hI.L4200 hin)) ke_X5_dearBy wd_l_X5_152 (by decide) mo_blind (fun U hU hv => ⟨by rw [hU]; exact hM, hK.moved hv⟩) (mo_recv hK hM) rfl hl.1 rfl (Nat.le_of_ble_eq_true rfl) dX5_targetOf_19 hf (fun r1 hr1 => ?_)
    rw [hdv] at hr1
    replace hr1 : r1 = sp_dv mm w := hr1
    subst hr1
    refine lv_bipush (v := 100) hx hb dX5_targetOf_22 (by decide) ?_
    refine lv_imul hx hb dX5_targetOf_24 ?_
    refine lv_iconst (v := 1) hx hb dX5_targetOf_25 (by decide) ?_
    refine lv_aload_n hx hb dX5_targetOf_26 rfl (lv_at hl 3 rfl) ?_
    refine lv_iload_n hx hb dX5_targetOf_27 rfl (lv_at hl 4 rfl) ?_
    refine lv_iload hx hb dX5_targetOf_28 (lv_at hl 2 rfl) ?_
    refine rc_V (fr := 1) (lo := 25) (As := [.int (nI c1), .int (nI w)]) (rest := [.int 1, .int ((sp_dv mm w) * 100)]) hF (m_X5_nearest l D cI o a mm c1 w hc1 (by omega)) ke_X5_nearest wd_l_X5_155 (by decide) mo_blind (fun U hU hv => ⟨by rw [hU]; exact hM, hK.moved hv⟩) (mo_recv hK hM) rfl hl.1 rfl (Nat.le_of_ble_eq_true rfl) dX5_targetOf_30 hf (fun r2 hr2 => ?_)
    replace hr2 : r2 = sp_nst mm c1 w := hr2
    subst hr2
    refine lv_iadd hx hb dX5_targetOf_33 ?_
    refine lv_idiv hx hb dX5_targetOf_34 (nst_ne hI hc1 hin) ?_
    refine bo_to (v := (sp_wth mm c1 w)) (rfl) ?_
    refine lv_istore (lv' := [(5, .int (sp_wth mm c1 w)), (2, .int ((tgn mm c1 w).1)), (3, .int ((tgn mm c1 w).2)), (4, .int (nI w)), (0, .ref o), (1, .int (nI c1))]) hx hb dX5_targetOf_35 hl (by decide) rfl (fun ls hl => ?_)
    refine bo_cut (ls := ls) (tgt := 49) (E := (tgn mm c1 (w + 1)).1) (rest := []) (fun vb evb => ?_) (fun J49 => ?_)
    · skip
      subst evb
      refine lv_istore_n (lv' := [(2, .int (tgn mm c1 (w + 1)).1), (5, .int (sp_wth mm c1 w)), (3, .int ((tgn mm c1 w).2)), (4, .int (nI w)), (0, .ref o), (1, .int (nI c1))]) hx hb dX5_targetOf_49 rfl hl (by decide) rfl (fun ls hl => ?_)
      refine bo_cut (ls := ls) (tgt := 62) (E := (tgn mm c1 (w + 1)).2) (rest := []) (fun vm evm => ?_) (fun J62 => ?_)
      · skip
        subst evm
        refine lv_istore_n (lv' := [(3, .int (tgn mm c1 (w + 1)).2), (2, .int (tgn mm c1 (w + 1)).1), (5, .int (sp_wth mm c1 w)), (4, .int (nI w)), (0, .ref o), (1, .int (nI c1))]) hx hb dX5_targetOf_62 rfl hl (by decide) rfl (fun ls hl => ?_)
        refine lv_iinc (v := (nI (w + 1))) (lv' := [(4, .int (nI (w + 1))), (3, .int (tgn mm c1 (w + 1)).2), (2, .int (tgn mm c1 (w + 1)).1), (5, .int (sp_wth mm c1 w)), (0, .ref o), (1, .int (nI c1))]) hx hb dX5_targetOf_63 hl (k := 3) rfl (nI_1 w) (by decide) rfl (fun ls hl => ?_)
        refine lv_goto (tgt := 7) hx hb dX5_targetOf_66 (by decide) ?_
        exact ih7 (w + 1) _ _ _ (by show sp_W mm - (w + 1) < sp_W mm - w; omega) ⟨rfl, rfl, lv_sub hl [2, 1, 0, 4, 5] rfl, by omega⟩
      · skip
        refine lv_iload hx hb dX5_targetOf_50 (lv_at hl 1 rfl) ?_
        refine lv_iload_n hx hb dX5_targetOf_52 rfl (lv_at hl 2 rfl) ?_
        refine lv_icmp_le (tgt := 61) hx hb dX5_targetOf_53 (by decide) (fun c4 => ?_) (fun c4 => ?_)
        · skip
          refine lv_iload_n hx hb dX5_targetOf_61 rfl (lv_at hl 2 rfl) ?_
          exact J62 _ (by first | exact tg_y2 (bo_le c4) | exact tg_n2 (bo_nlt c4))
        · skip
          refine lv_iload hx hb dX5_targetOf_56 (lv_at hl 1 rfl) ?_
          refine lv_goto (tgt := 62) hx hb dX5_targetOf_58 (by decide) ?_
          exact J62 _ (by first | exact tg_y2 (bo_le c4) | exact tg_n2 (bo_nlt c4))
    · skip
      refine lv_iload hx hb dX5_targetOf_37 (lv_at hl 0 rfl) ?_
      refine lv_iload_n hx hb dX5_targetOf_39 rfl (lv_at hl 2 rfl) ?_
      refine lv_icmp_le (tgt := 48) hx hb dX5_targetOf_40 (by decide) (fun c3 => ?_) (fun c3 => ?_)
      · skip
        refine lv_iload_n hx hb dX5_targetOf_48 rfl (lv_at hl 1 rfl) ?_
        exact J49 _ (by first | exact tg_y1 (bo_le c3) | exact tg_n1 (bo_nlt c3))
      · skip
        refine lv_iload hx hb dX5_targetOf_43 (lv_at hl 3 rfl) ?_
        refine lv_goto (tgt := 49) hx hb dX5_targetOf_45 (by decide) ?_
        exact J49 _ (by first | exact tg_y1 (bo_le c3) | exact tg_n1 (bo_nlt c3))
theorem ke_X5_target : wl_V RX5 yX5_target cX5_target 2 (some .int) 1 := ⟨wd_c_X5_target, wd_i_X5_target, wd_s_X5_target, wd_n_X5, by decide, by decide +kernel⟩
set_option maxHeartbeats 4000000 in
set_option maxRecDepth 100000 in
theorem m_X5_target (l : Launch) (D : va_G) (cI : ClassId) (o : Nat) (a : Nat → Nat) (mm : q_Mem) (hMD : mo_D o a) (x : Int32) (hI : Inv mm) (hN : ∀ w, w < 40 → sp_N mm w) : mo_Ci l yX5_target cX5_target 2 (some .int) 3 74 D cI o a mm [.int x] (fun r m1 => (r, m1) = sp_tar mm x) := by
  refine mo_ofQ (by decide) (Nat.le_of_ble_eq_true rfl) ?_
  intro p e s m args below meth c hx hb hr hF hlk hM hK hS ls hl
  have hA : ∀ q, mo_R o a q → mo_R o a q := fun _ h => h
  have hl : lv_has ls 2 [(0, .ref o), (1, .int x)] := hl
  have hf : (0 : Nat) ≤ 0 ∧ (0 : Nat) ≤ 0 := ⟨Nat.le_refl 0, Nat.le_refl 0⟩
  refine lv_aload_n hx hb dX5_target_0 rfl (lv_at hl 0 rfl) ?_
  refine lv_iload_n hx hb dX5_target_1 rfl (lv_at hl 1 rfl) ?_
  refine rc_S (fr := 0) (lo := 0) (As := [.int x]) (rest := [.ref o]) hF (m_X5_isCar l x) ke_X5_isCar wd_l_X5_140 (by decide) bl_true (fun _ _ _ => trivial) rfl hl.1 rfl (Nat.le_of_ble_eq_true rfl) dX5_target_2 hf (fun r1 hr1 => ?_)
  refine mo_iV (fr := 0) (lo := 0) (As := [.int r1]) (rest := []) hF (m_X5_asks l D cI o a mm hMD r1 (sp_car x) hr1) ke_X5_asks wd_l_X5_83 (by decide) hK hM hS hA rfl hl.1 rfl (Nat.le_of_ble_eq_true rfl) dX5_target_5 hf (fun r2 mm3 H locs hr2 hM hS _ _ => ?_)
  obtain ⟨hr2, hmm3⟩ := hr2
  subst hmm3
  have hbr2 := hr2.trans hr1
  refine bo_eq (tgt := 19) hbr2 hx hb dX5_target_8 (by decide) (fun cP => ?_) (fun cP => ?_)
  · skip
    rw [if_neg cP] at hM
    refine lv_iconst (v := 0) hx hb dX5_target_19 (by decide) ?_
    exact mo_iret hx hb hr hlk hK hM hS (by first | (rw [sp_tar, if_neg cP]; done) | (rw [sp_tar, if_pos cP, nt_c (by omega)]; rfl)) dX5_target_20
  · skip
    rw [if_pos cP] at hM
    obtain ⟨ci, hci, rfl⟩ := nt_car cP
    refine lv_aload_n hx hb dX5_target_11 rfl (lv_at hl 0 rfl) ?_
    refine lv_iload_n hx hb dX5_target_12 rfl (lv_at hl 1 rfl) ?_
    refine rc_V (fr := 2) (lo := 49) (As := [.int (nI ci)]) (rest := []) hF (m_X5_targetOf l D cI o a (up2 mm 19 0 0) ci hci hI (fun w hw => sp_N_ext (up2_k (by decide)) (up2_k (by decide)) (up2_k (by decide)) (hN w hw))) ke_X5_targetOf wd_l_X5_158 (by decide) mo_blind (fun U hU hv => ⟨by rw [hU]; exact hM, hK.moved hv⟩) (mo_recv hK hM) rfl hl.1 rfl (Nat.le_of_ble_eq_true rfl) dX5_target_13 hf (fun r4 hr4 => ?_)
    replace hr4 : r4 = sp_tg (up2 mm 19 0 0) ci := hr4
    subst hr4
    refine lv_goto (tgt := 20) hx hb dX5_target_16 (by decide) ?_
    exact mo_iret hx hb hr hlk hK hM hS (by first | (rw [sp_tar, if_neg cP]; done) | (rw [sp_tar, if_pos cP, nt_c (by omega)]; rfl)) dX5_target_20
theorem ke_X5_send : wl_V RX5 yX5_send cX5_send 4 (some .int) 1 := ⟨wd_c_X5_send, wd_i_X5_send, wd_s_X5_send, wd_n_X5, by decide, by decide +kernel⟩
set_option maxHeartbeats 4000000 in
set_option maxRecDepth 100000 in
theorem m_X5_send (l : Launch) (D : va_G) (cI : ClassId) (o : Nat) (a : Nat → Nat) (mm : q_Mem) (hMD : mo_D o a) (x : Int32) (hI : Inv mm) (hN : ∀ w, w < 40 → sp_N mm w) : mo_Ci l yX5_send cX5_send 4 (some .int) 3 74 D cI o a mm [.int x] (fun r m1 => (r, m1) = sp_snd mm x) := by
  refine mo_ofQ (by decide) (Nat.le_of_ble_eq_true rfl) ?_
  intro p e s m args below meth c hx hb hr hF hlk hM hK hS ls hl
  have hA : ∀ q, mo_R o a q → mo_R o a q := fun _ h => h
  have hl : lv_has ls 4 [(0, .ref o), (1, .int x)] := hl
  have hf : (0 : Nat) ≤ 0 ∧ (0 : Nat) ≤ 0 := ⟨Nat.le_refl 0, Nat.le_refl 0⟩
  refine lv_aload_n hx hb dX5_send_0 rfl (lv_at hl 0 rfl) ?_
  refine lv_iload_n hx hb dX5_send_1 rfl (lv_at hl 1 rfl) ?_
  refine rc_S (fr := 0) (lo := 0) (As := [.int x]) (rest := [.ref o]) hF (m_X5_isCar l x) ke_X5_isCar wd_l_X5_140 (by decide) bl_true (fun _ _ _ => trivial) rfl hl.1 rfl (Nat.le_of_ble_eq_true rfl) dX5_send_2 hf (fun r1 hr1 => ?_)
  refine mo_iV (fr := 0) (lo := 0) (As := [.int r1]) (rest := []) hF (m_X5_asks l D cI o a mm hMD r1 (sp_car x) hr1) ke_X5_asks wd_l_X5_83 (by decide) hK hM hS hA rfl hl.1 rfl (Nat.le_of_ble_eq_true rfl) dX5_send_5 hf (fun r2 mm3 H locs hr2 hM hS _ _ => ?_)
  obtain ⟨hr2, hmm3⟩ := hr2
  subst hmm3
  have hbr2 := hr2.trans hr1
  refine bo_ne (tgt := 13) hbr2 hx hb dX5_send_8 (by decide) (fun cP => ?_) (fun cP => ?_)
  · skip
    rw [if_pos cP] at hM
    obtain ⟨ci, hci, rfl⟩ := nt_car cP
    have hW40 := hI.W40
    refine lv_aload_n hx hb dX5_send_13 rfl (lv_at hl 0 rfl) ?_
    refine lv_iload_n hx hb dX5_send_14 rfl (lv_at hl 1 rfl) ?_
    refine rc_V (fr := 2) (lo := 49) (As := [.int (nI ci)]) (rest := []) hF (m_X5_targetOf l D cI o a (up2 mm 19 0 0) ci hci hI (fun w hw => sp_N_ext (up2_k (by decide)) (up2_k (by decide)) (up2_k (by decide)) (hN w hw))) ke_X5_targetOf wd_l_X5_158 (by decide) mo_blind (fun U hU hv => ⟨by rw [hU]; exact hM, hK.moved hv⟩) (mo_recv hK hM) rfl hl.1 rfl (Nat.le_of_ble_eq_true rfl) dX5_send_15 hf (fun r4 hr4 => ?_)
    replace hr4 : r4 = sp_tg (up2 mm 19 0 0) ci := hr4
    subst hr4
    refine lv_istore_n (lv' := [(2, .int (sp_tg (up2 mm 19 0 0) ci)), (0, .ref o), (1, .int (nI ci))]) hx hb dX5_send_18 rfl hl (by decide) rfl (fun ls hl => ?_)
    refine lv_iload_n hx hb dX5_send_19 rfl (lv_at hl 0 rfl) ?_
    refine lv_iconst (v := (-1)) hx hb dX5_send_20 (by decide) ?_
    refine lv_icmp_ne (tgt := 30) hx hb dX5_send_21 (by decide) (fun cT => ?_) (fun cT => ?_)
    · skip
      obtain ⟨wi, hwi, etg⟩ := (tg_or (up2 mm 19 0 0) ci).resolve_left cT
      have hwi2 : wi < sp_W mm := hwi
      have hw40 : wi < 40 := by omega
      have hJ : sp_snd mm (nI ci) = sp_snd0 (up2 mm 19 0 0) ci wi := by rw [sp_snd, if_pos cP, nt_c (by omega), if_neg (show ¬ sp_tg mm ci = -1 from cT)]; show sp_snd0 (up2 mm 19 0 0) ci (sp_tg (up2 mm 19 0 0) ci).toNatClampNeg = _; rw [etg, nt_c (by omega)]
      rw [etg] at hl
      refine bo_cut (ls := ls) (tgt := 72) (E := if sp_far (up2 mm 19 0 0) ci (mm 2 wi) (mm 3 wi) ≤ sp_far (up2 mm 19 0 0) ci (mm 4 wi) (mm 5 wi) then 1 else 0) (rest := []) (fun vi evi => ?_) (fun J72 => ?_)
      · skip
        refine lv_istore_n (lv' := [(3, .int vi), (2, .int (nI wi)), (0, .ref o), (1, .int (nI ci))]) hx hb dX5_send_72 rfl hl (by decide) rfl (fun ls hl => ?_)
        refine lv_aload_n hx hb dX5_send_73 rfl (lv_at hl 2 rfl) ?_
        refine lv_iload_n hx hb dX5_send_74 rfl (lv_at hl 3 rfl) ?_
        refine lv_iload_n hx hb dX5_send_75 rfl (lv_at hl 0 rfl) ?_
        refine bo_eq (tgt := 88) evi hx hb dX5_send_76 (by decide) (fun c8 => ?_) (fun c8 => ?_)
        · skip
          refine lv_aload_n hx hb dX5_send_88 rfl (lv_at hl 2 rfl) ?_
          refine mo_get hF hK hM 4 (by decide) wd_f_X5_19 rfl dX5_send_89 ?_
          refine lv_iload_n hx hb dX5_send_92 rfl (lv_at hl 1 rfl) ?_
          refine mo_ald hF hK hM 4 wi (by decide) rfl (by exact hw40) dX5_send_93 ?_
          refine bo_to (v := (mm 4 wi)) (up2_c (by decide)) ?_
          refine lv_iload_n hx hb dX5_send_94 rfl (lv_at hl 0 rfl) ?_
          refine bo_eq (tgt := 107) evi hx hb dX5_send_95 (by decide) (fun c9 => ?_) (fun c9 => ?_)
          · skip
            refine lv_aload_n hx hb dX5_send_107 rfl (lv_at hl 2 rfl) ?_
            refine mo_get hF hK hM 5 (by decide) wd_f_X5_22 rfl dX5_send_108 ?_
            refine lv_iload_n hx hb dX5_send_111 rfl (lv_at hl 1 rfl) ?_
            refine mo_ald hF hK hM 5 wi (by decide) rfl (by exact hw40) dX5_send_112 ?_
            refine bo_to (v := (mm 5 wi)) (up2_c (by decide)) ?_
            refine mo_iV (fr := 1) (lo := 25) (As := [.int (nI ci), .int (mm 4 wi), .int (mm 5 wi)]) (rest := []) hF (m_X5_goes l D cI o a (up2 mm 19 0 0) hMD ci (mm 4 wi) (mm 5 wi) hci) ke_X5_goes wd_l_X5_143 (by decide) hK hM hS hA rfl hl.1 rfl (Nat.le_of_ble_eq_true rfl) dX5_send_113 hf (fun r6 mm7 H locs hr6 hM hS _ _ => ?_)
            obtain ⟨hr6, hmm7⟩ := hr6
            subst hmm7
            replace hr6 : r6 = sp_far (up2 mm 19 0 0) ci (mm 4 wi) (mm 5 wi) := hr6
            subst hr6
            exact mo_iret hx hb hr hlk hK hM hS (by first | exact (hJ.trans (if_pos c8)).symm | exact (hJ.trans (if_neg c8)).symm) dX5_send_116
          · skip
            exact absurd c9 c8
        · skip
          refine lv_aload_n hx hb dX5_send_79 rfl (lv_at hl 2 rfl) ?_
          refine mo_get hF hK hM 2 (by decide) wd_f_X5_13 rfl dX5_send_80 ?_
          refine lv_iload_n hx hb dX5_send_83 rfl (lv_at hl 1 rfl) ?_
          refine mo_ald hF hK hM 2 wi (by decide) rfl (by exact hw40) dX5_send_84 ?_
          refine bo_to (v := (mm 2 wi)) (up2_c (by decide)) ?_
          refine lv_goto (tgt := 94) hx hb dX5_send_85 (by decide) ?_
          refine lv_iload_n hx hb dX5_send_94 rfl (lv_at hl 0 rfl) ?_
          refine bo_eq (tgt := 107) evi hx hb dX5_send_95 (by decide) (fun c9 => ?_) (fun c9 => ?_)
          · skip
            exact absurd c8 c9
          · skip
            refine lv_aload_n hx hb dX5_send_98 rfl (lv_at hl 2 rfl) ?_
            refine mo_get hF hK hM 3 (by decide) wd_f_X5_16 rfl dX5_send_99 ?_
            refine lv_iload_n hx hb dX5_send_102 rfl (lv_at hl 1 rfl) ?_
            refine mo_ald hF hK hM 3 wi (by decide) rfl (by exact hw40) dX5_send_103 ?_
            refine bo_to (v := (mm 3 wi)) (up2_c (by decide)) ?_
            refine lv_goto (tgt := 113) hx hb dX5_send_104 (by decide) ?_
            refine mo_iV (fr := 1) (lo := 25) (As := [.int (nI ci), .int (mm 2 wi), .int (mm 3 wi)]) (rest := []) hF (m_X5_goes l D cI o a (up2 mm 19 0 0) hMD ci (mm 2 wi) (mm 3 wi) hci) ke_X5_goes wd_l_X5_143 (by decide) hK hM hS hA rfl hl.1 rfl (Nat.le_of_ble_eq_true rfl) dX5_send_113 hf (fun r8 mm9 H locs hr8 hM hS _ _ => ?_)
            obtain ⟨hr8, hmm9⟩ := hr8
            subst hmm9
            replace hr8 : r8 = sp_far (up2 mm 19 0 0) ci (mm 2 wi) (mm 3 wi) := hr8
            subst hr8
            exact mo_iret hx hb hr hlk hK hM hS (by first | exact (hJ.trans (if_pos c8)).symm | exact (hJ.trans (if_neg c8)).symm) dX5_send_116
      · skip
        refine lv_aload_n hx hb dX5_send_30 rfl (lv_at hl 1 rfl) ?_
        refine lv_iload_n hx hb dX5_send_31 rfl (lv_at hl 2 rfl) ?_
        refine lv_aload_n hx hb dX5_send_32 rfl (lv_at hl 1 rfl) ?_
        refine mo_get hF hK hM 2 (by decide) wd_f_X5_13 rfl dX5_send_33 ?_
        refine lv_iload_n hx hb dX5_send_36 rfl (lv_at hl 0 rfl) ?_
        refine mo_ald hF hK hM 2 wi (by decide) rfl (by exact hw40) dX5_send_37 ?_
        refine bo_to (v := (mm 2 wi)) (up2_c (by decide)) ?_
        refine lv_aload_n hx hb dX5_send_38 rfl (lv_at hl 1 rfl) ?_
        refine mo_get hF hK hM 3 (by decide) wd_f_X5_16 rfl dX5_send_39 ?_
        refine lv_iload_n hx hb dX5_send_42 rfl (lv_at hl 0 rfl) ?_
        refine mo_ald hF hK hM 3 wi (by decide) rfl (by exact hw40) dX5_send_43 ?_
        refine bo_to (v := (mm 3 wi)) (up2_c (by decide)) ?_
        refine rc_V (fr := 0) (lo := 0) (As := [.int (nI ci), .int (mm 2 wi), .int (mm 3 wi)]) (rest := []) hF (m_X5_far l D cI o a (up2 mm 19 0 0) ci (mm 2 wi) (mm 3 wi) hci) ke_X5_far wd_l_X5_137 (by decide) mo_blind (fun U hU hv => ⟨by rw [hU]; exact hM, hK.moved hv⟩) (mo_recv hK hM) rfl hl.1 rfl (Nat.le_of_ble_eq_true rfl) dX5_send_44 hf (fun r10 hr10 => ?_)
        replace hr10 : r10 = sp_far (up2 mm 19 0 0) ci (mm 2 wi) (mm 3 wi) := hr10
        subst hr10
        refine lv_aload_n hx hb dX5_send_47 rfl (lv_at hl 1 rfl) ?_
        refine lv_iload_n hx hb dX5_send_48 rfl (lv_at hl 2 rfl) ?_
        refine lv_aload_n hx hb dX5_send_49 rfl (lv_at hl 1 rfl) ?_
        refine mo_get hF hK hM 4 (by decide) wd_f_X5_19 rfl dX5_send_50 ?_
        refine lv_iload_n hx hb dX5_send_53 rfl (lv_at hl 0 rfl) ?_
        refine mo_ald hF hK hM 4 wi (by decide) rfl (by exact hw40) dX5_send_54 ?_
        refine bo_to (v := (mm 4 wi)) (up2_c (by decide)) ?_
        refine lv_aload_n hx hb dX5_send_55 rfl (lv_at hl 1 rfl) ?_
        refine mo_get hF hK hM 5 (by decide) wd_f_X5_22 rfl dX5_send_56 ?_
        refine lv_iload_n hx hb dX5_send_59 rfl (lv_at hl 0 rfl) ?_
        refine mo_ald hF hK hM 5 wi (by decide) rfl (by exact hw40) dX5_send_60 ?_
        refine bo_to (v := (mm 5 wi)) (up2_c (by decide)) ?_
        refine rc_V (fr := 0) (lo := 0) (As := [.int (nI ci), .int (mm 4 wi), .int (mm 5 wi)]) (rest := [.int (sp_far (up2 mm 19 0 0) ci (mm 2 wi) (mm 3 wi))]) hF (m_X5_far l D cI o a (up2 mm 19 0 0) ci (mm 4 wi) (mm 5 wi) hci) ke_X5_far wd_l_X5_137 (by decide) mo_blind (fun U hU hv => ⟨by rw [hU]; exact hM, hK.moved hv⟩) (mo_recv hK hM) rfl hl.1 rfl (Nat.le_of_ble_eq_true rfl) dX5_send_61 hf (fun r11 hr11 => ?_)
        replace hr11 : r11 = sp_far (up2 mm 19 0 0) ci (mm 4 wi) (mm 5 wi) := hr11
        subst hr11
        refine lv_icmp_gt (tgt := 71) hx hb dX5_send_64 (by decide) (fun c7 => ?_) (fun c7 => ?_)
        · skip
          refine lv_iconst (v := 0) hx hb dX5_send_71 (by decide) ?_
          exact J72 _ (by first | exact bo_n (bo_nle c7) | exact bo_p (bo_lt c7))
        · skip
          refine lv_iconst (v := 1) hx hb dX5_send_67 (by decide) ?_
          refine lv_goto (tgt := 72) hx hb dX5_send_68 (by decide) ?_
          exact J72 _ (by first | exact bo_n (bo_nle c7) | exact bo_p (bo_lt c7))
    · skip
      refine lv_aload_n hx hb dX5_send_24 rfl (lv_at hl 1 rfl) ?_
      refine lv_iconst (v := 2) hx hb dX5_send_25 (by decide) ?_
      refine mo_iV (fr := 0) (lo := 0) (As := [.int 2]) (rest := []) hF (m_X5_fails l D cI o a (up2 mm 19 0 0) hMD 2) ke_X5_fails wd_l_X5_87 (by decide) hK hM hS hA rfl hl.1 rfl (Nat.le_of_ble_eq_true rfl) dX5_send_26 hf (fun r12 mm13 H locs hr12 hM hS _ _ => ?_)
      obtain ⟨hr12, hmm13⟩ := hr12
      subst hmm13
      replace hr12 : r12 = 0 := hr12
      subst hr12
      exact mo_iret hx hb hr hlk hK hM hS (by rw [sp_snd, if_pos cP, nt_c (by omega), if_pos (show sp_tg mm ci = -1 from cT), up2_twice]) dX5_send_29
  · skip
    rw [if_neg cP] at hM
    refine lv_iconst (v := 0) hx hb dX5_send_11 (by decide) ?_
    exact mo_iret hx hb hr hlk hK hM hS (by rw [sp_snd, if_neg cP]) dX5_send_12
theorem ke_X5_see : wl_V RX5 yX5_see cX5_see 6 (some .boolean) 4 := ⟨wd_c_X5_see, wd_i_X5_see, wd_s_X5_see, wd_n_X5, by decide, by decide +kernel⟩
set_option maxHeartbeats 4000000 in
set_option maxRecDepth 100000 in
theorem m_X5_see (l : Launch) (D : va_G) (cI : ClassId) (o : Nat) (a : Nat → Nat) (mm : q_Mem) (hMD : mo_D o a) (x y z q : Int32) (hI : Inv mm) (hN : ∀ w, w < 40 → sp_N mm w) : mo_Ci l yX5_see cX5_see 6 (some .boolean) 1 29 D cI o a mm [.int x, .int y, .int z, .int q] (fun r m1 => r = (sp_see mm x y z q).1 ∧ eqx m1 (sp_see mm x y z q).2 ∧ ∀ w, w < 40 → sp_N m1 w) := by
  refine mo_ofQ (by decide) (Nat.le_of_ble_eq_true rfl) ?_
  intro p e s m args below meth c hx hb hr hF hlk hM hK hS ls hl
  have hA : ∀ q, mo_R o a q → mo_R o a q := fun _ h => h
  have hl : lv_has ls 6 [(0, .ref o), (1, .int x), (2, .int y), (3, .int z), (4, .int q)] := hl
  have hf : (0 : Nat) ≤ 0 ∧ (0 : Nat) ≤ 0 := ⟨Nat.le_refl 0, Nat.le_refl 0⟩
  refine lv_aload_n hx hb dX5_see_0 rfl (lv_at hl 0 rfl) ?_
  refine bo_cut (ls := ls) (tgt := 21) (E := if sp_car x ∧ sp_wy mm y then 1 else 0) (rest := [.ref o]) (fun va eva => ?_) (fun J21 => ?_)
  · skip
    refine mo_iV (fr := 0) (lo := 0) (As := [.int va]) (rest := []) hF (m_X5_asks l D cI o a mm hMD va (sp_car x ∧ sp_wy mm y) eva) ke_X5_asks wd_l_X5_83 (by decide) hK hM hS hA rfl hl.1 rfl (Nat.le_of_ble_eq_true rfl) dX5_see_21 hf (fun r2 mm3 H locs hr2 hM hS _ _ => ?_)
    obtain ⟨hr2, hmm3⟩ := hr2
    subst hmm3
    have hbr2 := hr2.trans eva
    refine bo_ne (tgt := 29) hbr2 hx hb dX5_see_24 (by decide) (fun cP => ?_) (fun cP => ?_)
    · skip
      rw [if_pos cP] at hM
      have hW40 := hI.W40
      obtain ⟨ci, hci, rfl⟩ := nt_car cP.1
      obtain ⟨wi, hwi, rfl⟩ := nt_wy hI cP.2
      have hw40 : wi < 40 := by omega
      refine lv_iload_n hx hb dX5_see_29 rfl (lv_at hl 3 rfl) ?_
      refine lv_iconst (v := 0) hx hb dX5_see_30 (by decide) ?_
      refine lv_iconst (v := 2) hx hb dX5_see_31 (by decide) ?_
      refine rc_S (fr := 0) (lo := 0) (As := [.int z, .int 0, .int 2]) (rest := []) hF (m_X5_in l z 0 2) ke_X5_in wd_l_X5_65 (by decide) bl_true (fun _ _ _ => trivial) rfl hl.1 rfl (Nat.le_of_ble_eq_true rfl) dX5_see_32 hf (fun r4 hr4 => ?_)
      refine bo_eq (tgt := 49) hr4 hx hb dX5_see_35 (by decide) (fun c3 => ?_) (fun c3 => ?_)
      · skip
        have cR : ¬ sp_rng z q := fun k => c3 k.1
        refine lv_aload_n hx hb dX5_see_49 rfl (lv_at hl 0 rfl) ?_
        refine lv_iconst (v := 2) hx hb dX5_see_50 (by decide) ?_
        refine mo_put (mm := (up2 mm 19 0 0)) hF hK hM hMD hS hA 19 (by decide) wd_f_X5_61 dX5_see_51 (fun H locs hM hS => ?_)
        refine lv_iconst (v := 0) hx hb dX5_see_54 (by decide) ?_
        exact mo_zret hx hb hr hlk (by first | exact Or.inl rfl | exact Or.inr rfl) hK hM hS (by rw [up2_twice]; exact see_no (by rw [sp_see, if_pos cP, if_neg cR]) hN) dX5_see_55
      · skip
        refine lv_iload hx hb dX5_see_38 (lv_at hl 4 rfl) ?_
        refine lv_iconst (v := 0) hx hb dX5_see_40 (by decide) ?_
        refine lv_bipush (v := 99) hx hb dX5_see_41 (by decide) ?_
        refine rc_S (fr := 0) (lo := 0) (As := [.int q, .int 0, .int 99]) (rest := []) hF (m_X5_in l q 0 99) ke_X5_in wd_l_X5_65 (by decide) bl_true (fun _ _ _ => trivial) rfl hl.1 rfl (Nat.le_of_ble_eq_true rfl) dX5_see_43 hf (fun r5 hr5 => ?_)
        refine bo_ne (tgt := 56) hr5 hx hb dX5_see_46 (by decide) (fun c4 => ?_) (fun c4 => ?_)
        · skip
          have cR : sp_rng z q := ⟨c3, c4⟩
          obtain ⟨di, hdi0, rfl⟩ := nt_le (n := 2) (by decide) c3
          obtain ⟨qi, hqi0, rfl⟩ := nt_le (n := 99) (by decide) c4
          have hdi : di < 3 := by omega
          have hqi : qi < 100 := by omega
          refine lv_aload_n hx hb dX5_see_56 rfl (lv_at hl 0 rfl) ?_
          refine lv_iload_n hx hb dX5_see_57 rfl (lv_at hl 1 rfl) ?_
          refine lv_aload_n hx hb dX5_see_58 rfl (lv_at hl 0 rfl) ?_
          refine mo_get hF hK hM 2 (by decide) wd_f_X5_13 rfl dX5_see_59 ?_
          refine lv_iload_n hx hb dX5_see_62 rfl (lv_at hl 2 rfl) ?_
          refine mo_ald hF hK hM 2 wi (by decide) rfl (by exact hw40) dX5_see_63 ?_
          refine bo_to (v := (mm 2 wi)) (up2_c (by decide)) ?_
          refine lv_aload_n hx hb dX5_see_64 rfl (lv_at hl 0 rfl) ?_
          refine mo_get hF hK hM 3 (by decide) wd_f_X5_16 rfl dX5_see_65 ?_
          refine lv_iload_n hx hb dX5_see_68 rfl (lv_at hl 2 rfl) ?_
          refine mo_ald hF hK hM 3 wi (by decide) rfl (by exact hw40) dX5_see_69 ?_
          refine bo_to (v := (mm 3 wi)) (up2_c (by decide)) ?_
          refine rc_V (fr := 0) (lo := 0) (As := [.int (nI ci), .int (mm 2 wi), .int (mm 3 wi)]) (rest := []) hF (m_X5_far l D cI o a (up2 mm 19 0 0) ci (mm 2 wi) (mm 3 wi) hci) ke_X5_far wd_l_X5_137 (by decide) mo_blind (fun U hU hv => ⟨by rw [hU]; exact hM, hK.moved hv⟩) (mo_recv hK hM) rfl hl.1 rfl (Nat.le_of_ble_eq_true rfl) dX5_see_70 hf (fun r6 hr6 => ?_)
          replace hr6 : r6 = sp_far (up2 mm 19 0 0) ci (mm 2 wi) (mm 3 wi) := hr6
          subst hr6
          refine lv_if_le (tgt := 103) hx hb dX5_see_73 (by decide) (fun c5 => ?_) (fun c5 => ?_)
          · skip
            have hnr : sp_nr (up2 mm 19 0 0) ci wi := fun k => bo_nlt c5 k.1
            have hE : sp_see mm (nI ci) (nI wi) (nI di) (nI qi) = sp_see0 (up2 mm 19 0 0) ci wi di (nI qi) := by rw [sp_see, if_pos cP, if_pos cR, nt_c (by omega), nt_c (by omega), nt_c (by omega), if_pos (show sp_nr mm ci wi from hnr)]
            obtain ⟨n, f, g, h, hn9, hn17, hen, hall, hinj⟩ := hN wi hw40
            have hS9 : sn_L (up2 mm 19 0 0) wi n f g h := ⟨hn9, hn17, fun i hi => ⟨(hen i hi).1, (hen i hi).2.1, (hen i hi).2.2.1, (hen i hi).2.2.2.1⟩⟩
            refine lv_aload_n hx hb dX5_see_103 rfl (lv_at hl 0 rfl) ?_
            refine lv_iload_n hx hb dX5_see_104 rfl (lv_at hl 2 rfl) ?_
            refine lv_iload_n hx hb dX5_see_105 rfl (lv_at hl 1 rfl) ?_
            refine lv_iload_n hx hb dX5_see_106 rfl (lv_at hl 3 rfl) ?_
            refine lv_iload hx hb dX5_see_107 (lv_at hl 4 rfl) ?_
            refine mo_vV (fr := 0) (lo := 0) (As := [.int (nI wi), .int (nI ci), .int (nI di), .int (nI qi)]) (rest := []) hF (m_X5_clears l D cI o a (up2 mm 19 0 0) hMD wi ci di qi n f g h hci hdi hqi hw40 hS9) ke_X5_clears wd_l_X5_146 (by decide) hK hM hS hA rfl hl.1 rfl (Nat.le_of_ble_eq_true rfl) dX5_see_109 hf (fun mm8 H locs hmm8 hM hS => ?_)
            obtain ⟨kp, e1, m2, hk, rfl⟩ := hmm8
            have hk8 : kp ≤ 8 := sn_K8 hk hinj hdi hci (fun i hi => ⟨(hen i hi).1, (hen i hi).2.1⟩)
            refine lv_aload_n hx hb dX5_see_112 rfl (lv_at hl 0 rfl) ?_
            refine mo_get hF hK hM 18 (by decide) wd_f_X5_58 rfl dX5_see_113 ?_
            refine lv_bipush (v := 9) hx hb dX5_see_116 (by decide) ?_
            refine lv_iload_n hx hb dX5_see_118 rfl (lv_at hl 2 rfl) ?_
            refine lv_imul hx hb dX5_see_119 ?_
            refine bo_to (v := (nI (9 * wi))) (pk_mul 9 wi) ?_
            refine lv_aload_n hx hb dX5_see_120 rfl (lv_at hl 0 rfl) ?_
            refine mo_get hF hK hM 17 (by decide) wd_f_X5_55 rfl dX5_see_121 ?_
            refine lv_iload_n hx hb dX5_see_124 rfl (lv_at hl 2 rfl) ?_
            refine mo_ald hF hK hM 17 wi (by decide) rfl (by exact hw40) dX5_see_125 ?_
            refine bo_to (v := (nI kp)) (up2_s) ?_
            refine lv_iadd hx hb dX5_see_126 ?_
            refine bo_to (v := (nI (9 * wi + kp))) (nI_add _ _) ?_
            refine lv_iload_n hx hb dX5_see_127 rfl (lv_at hl 1 rfl) ?_
            refine lv_iconst (v := 4) hx hb dX5_see_128 (by decide) ?_
            refine lv_iload_n hx hb dX5_see_129 rfl (lv_at hl 3 rfl) ?_
            refine lv_imul hx hb dX5_see_130 ?_
            refine lv_iadd hx hb dX5_see_131 ?_
            refine lv_bipush (v := 16) hx hb dX5_see_132 (by decide) ?_
            refine lv_iload hx hb dX5_see_134 (lv_at hl 4 rfl) ?_
            refine lv_imul hx hb dX5_see_136 ?_
            refine lv_iadd hx hb dX5_see_137 ?_
            refine bo_to (v := (sp_S ci di qi)) (sS_mk) ?_
            refine mo_ast (mm := (up2 m2 17 wi (nI kp))) hF hK hM hMD hS hA 18 (9 * wi + kp) (by decide) rfl (show 9 * wi + kp < 360 by omega) dX5_see_138 (fun H locs hM hS => ?_)
            refine lv_aload_n hx hb dX5_see_139 rfl (lv_at hl 0 rfl) ?_
            refine mo_get hF hK hM 17 (by decide) wd_f_X5_55 rfl dX5_see_140 ?_
            refine lv_iload_n hx hb dX5_see_143 rfl (lv_at hl 2 rfl) ?_
            refine lv_dup2_11 hx hb dX5_see_144 rfl rfl ?_
            refine mo_ald hF hK hM 17 wi (by decide) rfl (by exact hw40) dX5_see_145 ?_
            refine bo_to (v := (nI kp)) (Eq.trans (up2_c (by decide)) (up2_s)) ?_
            refine lv_iconst (v := 1) hx hb dX5_see_146 (by decide) ?_
            refine lv_iadd hx hb dX5_see_147 ?_
            refine bo_to (v := (nI (kp + 1))) (nI_1 kp) ?_
            refine mo_ast (mm := (up2 (up2 m2 17 wi (nI kp)) 18 (9 * wi + kp) (sp_S ci di qi))) hF hK hM hMD hS hA 17 wi (by decide) rfl (by exact hw40) dX5_see_148 (fun H locs hM hS => ?_)
            replace hM : mo_H D cI o a (sn_see (up2 mm 19 0 0) m2 wi ci di qi kp) H := mo_ext hM (fun k hk20 => if_neg (by omega))
            have hx5 : eqx (sn_see (up2 mm 19 0 0) m2 wi ci di qi kp) (sp_keep (up2 mm 19 0 0) wi ci di (nI qi)) := sn_seex hk
            have hN5 : ∀ v, v < 40 → sp_N (sn_see (up2 mm 19 0 0) m2 wi ci di qi kp) v := by
              intro v hv
              by_cases z : v = wi
              · subst z; exact sn_seeN hk hci hdi hqi hen hall hinj
              · exact sn_seeO hk hk8 z (hN v hv)
            have hI5 : Inv (sn_see (up2 mm 19 0 0) m2 wi ci di qi kp) := Inv_ext hx5.sm (Inv_keep hI hwi hci hdi hqi)
            have hW5 : sp_W (sn_see (up2 mm 19 0 0) m2 wi ci di qi kp) = sp_W mm := by unfold sp_W; rw [hx5 1 (by decide) (by decide)]; rfl
            generalize (sn_see (up2 mm 19 0 0) m2 wi ci di qi kp) = m5 at hM hx5 hN5 hI5 hW5
            have hwi5 : wi < sp_W m5 := by rw [hW5]; exact hwi
            obtain ⟨n5, f5, g5, h5, hn5, hn5b, hen5, hall5, hinj5⟩ := hN5 wi hw40
            have hS5 : sn_L m5 wi n5 f5 g5 h5 := ⟨hn5, hn5b, fun i hi => ⟨(hen5 i hi).1, (hen5 i hi).2.1, (hen5 i hi).2.2.1, (hen5 i hi).2.2.2.1⟩⟩
            have hag5 := sn_agr hdi (fun i hi => ⟨(hen5 i hi).1, (hen5 i hi).2.1, (hen5 i hi).2.2.1, (hen5 i hi).2.2.2.2⟩) hall5
            refine bo_cut (ls := ls) (tgt := 172) (E := if ¬ sp_vd (m5 11 (sp_L m5 wi)) = nI di ∧ sp_agr m5 wi di then 1 else 0) (rest := []) (fun vi evi => ?_) (fun J172 => ?_)
            · skip
              refine lv_istore (lv' := [(5, .int vi), (0, .ref o), (1, .int (nI ci)), (2, .int (nI wi)), (3, .int (nI di)), (4, .int (nI qi))]) hx hb dX5_see_172 hl (by decide) rfl (fun ls hl => ?_)
              refine lv_iload hx hb dX5_see_174 (lv_at hl 0 rfl) ?_
              refine bo_eq (tgt := 198) evi hx hb dX5_see_176 (by decide) (fun c9 => ?_) (fun c9 => ?_)
              · skip
                refine lv_iload hx hb dX5_see_198 (lv_at hl 0 rfl) ?_
                exact mo_zret hx hb hr hlk (bo_bit evi) hK hM hS (by rw [evi, if_neg c9]; exact see_not hE hx5 hN5 c9) dX5_see_200
              · skip
                refine lv_aload_n hx hb dX5_see_179 rfl (lv_at hl 1 rfl) ?_
                refine lv_iload_n hx hb dX5_see_180 rfl (lv_at hl 3 rfl) ?_
                refine lv_aload_n hx hb dX5_see_181 rfl (lv_at hl 1 rfl) ?_
                refine lv_iload_n hx hb dX5_see_182 rfl (lv_at hl 3 rfl) ?_
                refine rc_V (fr := 0) (lo := 0) (As := [.int (nI wi)]) (rest := [.int (nI wi), .ref o]) hF (m_X5_kindNow l D cI o a m5 wi hw40 (hI5.L hwi5) (hI5.L4200 hwi5)) ke_X5_kindNow wd_l_X5_98 (by decide) mo_blind (fun U hU hv => ⟨by rw [hU]; exact hM, hK.moved hv⟩) (mo_recv hK hM) rfl hl.1 rfl (Nat.le_of_ble_eq_true rfl) dX5_see_183 hf (fun r10 hr10 => ?_)
                replace hr10 : r10 = sp_vk (m5 11 (sp_L m5 wi)) := hr10
                subst hr10
                refine lv_iload_n hx hb dX5_see_186 rfl (lv_at hl 4 rfl) ?_
                refine lv_iconst (v := (-1)) hx hb dX5_see_187 (by decide) ?_
                refine mo_vV (fr := 0) (lo := 0) (As := [.int (nI wi), .int (sp_vk (m5 11 (sp_L m5 wi))), .int (nI di), .int (-1)]) (rest := []) hF (m_X5_makes l D cI o a m5 hMD wi (sp_vk (m5 11 (sp_L m5 wi))) (nI di) (-1) hw40 hI5.K hI5.K4200) ke_X5_makes wd_l_X5_91 (by decide) hK hM hS hA rfl hl.1 rfl (Nat.le_of_ble_eq_true rfl) dX5_see_188 hf (fun mm12 H locs hmm12 hM hS => ?_)
                subst hmm12
                refine lv_aload_n hx hb dX5_see_191 rfl (lv_at hl 1 rfl) ?_
                refine mo_get hF hK hM 17 (by decide) wd_f_X5_55 rfl dX5_see_192 ?_
                refine lv_iload_n hx hb dX5_see_195 rfl (lv_at hl 3 rfl) ?_
                refine lv_iconst (v := 0) hx hb dX5_see_196 (by decide) ?_
                refine mo_ast (mm := sp_make m5 wi (sp_vk (m5 11 (sp_L m5 wi))) (nI di) (-1)) hF hK hM hMD hS hA 17 wi (by decide) rfl (by exact hw40) dX5_see_197 (fun H locs hM hS => ?_)
                replace hM : mo_H D cI o a (sn_fg (sp_make m5 wi (sp_vk (m5 11 (sp_L m5 wi))) (nI di) (-1)) wi) H := mo_ext hM (fun k hk20 => if_neg (by omega))
                refine lv_iload hx hb dX5_see_198 (lv_at hl 0 rfl) ?_
                exact mo_zret hx hb hr hlk (bo_bit evi) hK hM hS (by rw [evi, if_pos c9]; exact see_yes hE hx5 hN5 c9) dX5_see_200
            · skip
              refine lv_aload_n hx hb dX5_see_149 rfl (lv_at hl 0 rfl) ?_
              refine lv_iload_n hx hb dX5_see_150 rfl (lv_at hl 2 rfl) ?_
              refine rc_V (fr := 0) (lo := 0) (As := [.int (nI wi)]) (rest := []) hF (m_X5_directionNow l D cI o a m5 wi hw40 (hI5.L hwi5) (hI5.L4200 hwi5)) ke_X5_directionNow wd_l_X5_101 (by decide) mo_blind (fun U hU hv => ⟨by rw [hU]; exact hM, hK.moved hv⟩) (mo_recv hK hM) rfl hl.1 rfl (Nat.le_of_ble_eq_true rfl) dX5_see_151 hf (fun r13 hr13 => ?_)
              replace hr13 : r13 = sp_vd (m5 11 (sp_L m5 wi)) := hr13
              subst hr13
              refine lv_iload_n hx hb dX5_see_154 rfl (lv_at hl 3 rfl) ?_
              refine lv_icmp_eq (tgt := 171) hx hb dX5_see_155 (by decide) (fun c7 => ?_) (fun c7 => ?_)
              · skip
                refine lv_iconst (v := 0) hx hb dX5_see_171 (by decide) ?_
                exact J172 _ (by first | exact bo_n (fun k => k.1 c7) | exact bo_p ⟨c7, hag5.mp c8⟩ | exact bo_n (fun k => c8 (hag5.mpr k.2)))
              · skip
                refine lv_aload_n hx hb dX5_see_158 rfl (lv_at hl 0 rfl) ?_
                refine lv_iload_n hx hb dX5_see_159 rfl (lv_at hl 2 rfl) ?_
                refine lv_iload_n hx hb dX5_see_160 rfl (lv_at hl 3 rfl) ?_
                refine rc_V (fr := 0) (lo := 0) (As := [.int (nI wi), .int (nI di)]) (rest := []) hF (m_X5_agree l D cI o a m5 wi di n5 f5 g5 h5 hdi hw40 hS5) ke_X5_agree wd_l_X5_149 (by decide) mo_blind (fun U hU hv => ⟨by rw [hU]; exact hM, hK.moved hv⟩) (mo_recv hK hM) rfl hl.1 rfl (Nat.le_of_ble_eq_true rfl) dX5_see_161 hf (fun r14 hr14 => ?_)
                refine bo_eq (tgt := 171) hr14 hx hb dX5_see_164 (by decide) (fun c8 => ?_) (fun c8 => ?_)
                · skip
                  refine lv_iconst (v := 0) hx hb dX5_see_171 (by decide) ?_
                  exact J172 _ (by first | exact bo_n (fun k => k.1 c7) | exact bo_p ⟨c7, hag5.mp c8⟩ | exact bo_n (fun k => c8 (hag5.mpr k.2)))
                · skip
                  refine lv_iconst (v := 1) hx hb dX5_see_167 (by decide) ?_
                  refine lv_goto (tgt := 172) hx hb dX5_see_168 (by decide) ?_
                  exact J172 _ (by first | exact bo_n (fun k => k.1 c7) | exact bo_p ⟨c7, hag5.mp c8⟩ | exact bo_n (fun k => c8 (hag5.mpr k.2)))
          · skip
            refine lv_aload_n hx hb dX5_see_76 rfl (lv_at hl 0 rfl) ?_
            refine lv_iload_n hx hb dX5_see_77 rfl (lv_at hl 1 rfl) ?_
            refine lv_aload_n hx hb dX5_see_78 rfl (lv_at hl 0 rfl) ?_
            refine mo_get hF hK hM 4 (by decide) wd_f_X5_19 rfl dX5_see_79 ?_
            refine lv_iload_n hx hb dX5_see_82 rfl (lv_at hl 2 rfl) ?_
            refine mo_ald hF hK hM 4 wi (by decide) rfl (by exact hw40) dX5_see_83 ?_
            refine bo_to (v := (mm 4 wi)) (up2_c (by decide)) ?_
            refine lv_aload_n hx hb dX5_see_84 rfl (lv_at hl 0 rfl) ?_
            refine mo_get hF hK hM 5 (by decide) wd_f_X5_22 rfl dX5_see_85 ?_
            refine lv_iload_n hx hb dX5_see_88 rfl (lv_at hl 2 rfl) ?_
            refine mo_ald hF hK hM 5 wi (by decide) rfl (by exact hw40) dX5_see_89 ?_
            refine bo_to (v := (mm 5 wi)) (up2_c (by decide)) ?_
            refine rc_V (fr := 0) (lo := 0) (As := [.int (nI ci), .int (mm 4 wi), .int (mm 5 wi)]) (rest := []) hF (m_X5_far l D cI o a (up2 mm 19 0 0) ci (mm 4 wi) (mm 5 wi) hci) ke_X5_far wd_l_X5_137 (by decide) mo_blind (fun U hU hv => ⟨by rw [hU]; exact hM, hK.moved hv⟩) (mo_recv hK hM) rfl hl.1 rfl (Nat.le_of_ble_eq_true rfl) dX5_see_90 hf (fun r15 hr15 => ?_)
            replace hr15 : r15 = sp_far (up2 mm 19 0 0) ci (mm 4 wi) (mm 5 wi) := hr15
            subst hr15
            refine lv_if_le (tgt := 103) hx hb dX5_see_93 (by decide) (fun c6 => ?_) (fun c6 => ?_)
            · skip
              have hnr : sp_nr (up2 mm 19 0 0) ci wi := fun k => bo_nlt c6 k.2
              have hE : sp_see mm (nI ci) (nI wi) (nI di) (nI qi) = sp_see0 (up2 mm 19 0 0) ci wi di (nI qi) := by rw [sp_see, if_pos cP, if_pos cR, nt_c (by omega), nt_c (by omega), nt_c (by omega), if_pos (show sp_nr mm ci wi from hnr)]
              obtain ⟨n, f, g, h, hn9, hn17, hen, hall, hinj⟩ := hN wi hw40
              have hS9 : sn_L (up2 mm 19 0 0) wi n f g h := ⟨hn9, hn17, fun i hi => ⟨(hen i hi).1, (hen i hi).2.1, (hen i hi).2.2.1, (hen i hi).2.2.2.1⟩⟩
              refine lv_aload_n hx hb dX5_see_103 rfl (lv_at hl 0 rfl) ?_
              refine lv_iload_n hx hb dX5_see_104 rfl (lv_at hl 2 rfl) ?_
              refine lv_iload_n hx hb dX5_see_105 rfl (lv_at hl 1 rfl) ?_
              refine lv_iload_n hx hb dX5_see_106 rfl (lv_at hl 3 rfl) ?_
              refine lv_iload hx hb dX5_see_107 (lv_at hl 4 rfl) ?_
              refine mo_vV (fr := 0) (lo := 0) (As := [.int (nI wi), .int (nI ci), .int (nI di), .int (nI qi)]) (rest := []) hF (m_X5_clears l D cI o a (up2 mm 19 0 0) hMD wi ci di qi n f g h hci hdi hqi hw40 hS9) ke_X5_clears wd_l_X5_146 (by decide) hK hM hS hA rfl hl.1 rfl (Nat.le_of_ble_eq_true rfl) dX5_see_109 hf (fun mm17 H locs hmm17 hM hS => ?_)
              obtain ⟨kp, e1, m2, hk, rfl⟩ := hmm17
              have hk8 : kp ≤ 8 := sn_K8 hk hinj hdi hci (fun i hi => ⟨(hen i hi).1, (hen i hi).2.1⟩)
              refine lv_aload_n hx hb dX5_see_112 rfl (lv_at hl 0 rfl) ?_
              refine mo_get hF hK hM 18 (by decide) wd_f_X5_58 rfl dX5_see_113 ?_
              refine lv_bipush (v := 9) hx hb dX5_see_116 (by decide) ?_
              refine lv_iload_n hx hb dX5_see_118 rfl (lv_at hl 2 rfl) ?_
              refine lv_imul hx hb dX5_see_119 ?_
              refine bo_to (v := (nI (9 * wi))) (pk_mul 9 wi) ?_
              refine lv_aload_n hx hb dX5_see_120 rfl (lv_at hl 0 rfl) ?_
              refine mo_get hF hK hM 17 (by decide) wd_f_X5_55 rfl dX5_see_121 ?_
              refine lv_iload_n hx hb dX5_see_124 rfl (lv_at hl 2 rfl) ?_
              refine mo_ald hF hK hM 17 wi (by decide) rfl (by exact hw40) dX5_see_125 ?_
              refine bo_to (v := (nI kp)) (up2_s) ?_
              refine lv_iadd hx hb dX5_see_126 ?_
              refine bo_to (v := (nI (9 * wi + kp))) (nI_add _ _) ?_
              refine lv_iload_n hx hb dX5_see_127 rfl (lv_at hl 1 rfl) ?_
              refine lv_iconst (v := 4) hx hb dX5_see_128 (by decide) ?_
              refine lv_iload_n hx hb dX5_see_129 rfl (lv_at hl 3 rfl) ?_
              refine lv_imul hx hb dX5_see_130 ?_
              refine lv_iadd hx hb dX5_see_131 ?_
              refine lv_bipush (v := 16) hx hb dX5_see_132 (by decide) ?_
              refine lv_iload hx hb dX5_see_134 (lv_at hl 4 rfl) ?_
              refine lv_imul hx hb dX5_see_136 ?_
              refine lv_iadd hx hb dX5_see_137 ?_
              refine bo_to (v := (sp_S ci di qi)) (sS_mk) ?_
              refine mo_ast (mm := (up2 m2 17 wi (nI kp))) hF hK hM hMD hS hA 18 (9 * wi + kp) (by decide) rfl (show 9 * wi + kp < 360 by omega) dX5_see_138 (fun H locs hM hS => ?_)
              refine lv_aload_n hx hb dX5_see_139 rfl (lv_at hl 0 rfl) ?_
              refine mo_get hF hK hM 17 (by decide) wd_f_X5_55 rfl dX5_see_140 ?_
              refine lv_iload_n hx hb dX5_see_143 rfl (lv_at hl 2 rfl) ?_
              refine lv_dup2_11 hx hb dX5_see_144 rfl rfl ?_
              refine mo_ald hF hK hM 17 wi (by decide) rfl (by exact hw40) dX5_see_145 ?_
              refine bo_to (v := (nI kp)) (Eq.trans (up2_c (by decide)) (up2_s)) ?_
              refine lv_iconst (v := 1) hx hb dX5_see_146 (by decide) ?_
              refine lv_iadd hx hb dX5_see_147 ?_
              refine bo_to (v := (nI (kp + 1))) (nI_1 kp) ?_
              refine mo_ast (mm := (up2 (up2 m2 17 wi (nI kp)) 18 (9 * wi + kp) (sp_S ci di qi))) hF hK hM hMD hS hA 17 wi (by decide) rfl (by exact hw40) dX5_see_148 (fun H locs hM hS => ?_)
              replace hM : mo_H D cI o a (sn_see (up2 mm 19 0 0) m2 wi ci di qi kp) H := mo_ext hM (fun k hk20 => if_neg (by omega))
              have hx5 : eqx (sn_see (up2 mm 19 0 0) m2 wi ci di qi kp) (sp_keep (up2 mm 19 0 0) wi ci di (nI qi)) := sn_seex hk
              have hN5 : ∀ v, v < 40 → sp_N (sn_see (up2 mm 19 0 0) m2 wi ci di qi kp) v := by
                intro v hv
                by_cases z : v = wi
                · subst z; exact sn_seeN hk hci hdi hqi hen hall hinj
                · exact sn_seeO hk hk8 z (hN v hv)
              have hI5 : Inv (sn_see (up2 mm 19 0 0) m2 wi ci di qi kp) := Inv_ext hx5.sm (Inv_keep hI hwi hci hdi hqi)
              have hW5 : sp_W (sn_see (up2 mm 19 0 0) m2 wi ci di qi kp) = sp_W mm := by unfold sp_W; rw [hx5 1 (by decide) (by decide)]; rfl
              generalize (sn_see (up2 mm 19 0 0) m2 wi ci di qi kp) = m5 at hM hx5 hN5 hI5 hW5
              have hwi5 : wi < sp_W m5 := by rw [hW5]; exact hwi
              obtain ⟨n5, f5, g5, h5, hn5, hn5b, hen5, hall5, hinj5⟩ := hN5 wi hw40
              have hS5 : sn_L m5 wi n5 f5 g5 h5 := ⟨hn5, hn5b, fun i hi => ⟨(hen5 i hi).1, (hen5 i hi).2.1, (hen5 i hi).2.2.1, (hen5 i hi).2.2.2.1⟩⟩
              have hag5 := sn_agr hdi (fun i hi => ⟨(hen5 i hi).1, (hen5 i hi).2.1, (hen5 i hi).2.2.1, (hen5 i hi).2.2.2.2⟩) hall5
              refine bo_cut (ls := ls) (tgt := 172) (E := if ¬ sp_vd (m5 11 (sp_L m5 wi)) = nI di ∧ sp_agr m5 wi di then 1 else 0) (rest := []) (fun vi evi => ?_) (fun J172 => ?_)
              · skip
                refine lv_istore (lv' := [(5, .int vi), (0, .ref o), (1, .int (nI ci)), (2, .int (nI wi)), (3, .int (nI di)), (4, .int (nI qi))]) hx hb dX5_see_172 hl (by decide) rfl (fun ls hl => ?_)
                refine lv_iload hx hb dX5_see_174 (lv_at hl 0 rfl) ?_
                refine bo_eq (tgt := 198) evi hx hb dX5_see_176 (by decide) (fun c9 => ?_) (fun c9 => ?_)
                · skip
                  refine lv_iload hx hb dX5_see_198 (lv_at hl 0 rfl) ?_
                  exact mo_zret hx hb hr hlk (bo_bit evi) hK hM hS (by rw [evi, if_neg c9]; exact see_not hE hx5 hN5 c9) dX5_see_200
                · skip
                  refine lv_aload_n hx hb dX5_see_179 rfl (lv_at hl 1 rfl) ?_
                  refine lv_iload_n hx hb dX5_see_180 rfl (lv_at hl 3 rfl) ?_
                  refine lv_aload_n hx hb dX5_see_181 rfl (lv_at hl 1 rfl) ?_
                  refine lv_iload_n hx hb dX5_see_182 rfl (lv_at hl 3 rfl) ?_
                  refine rc_V (fr := 0) (lo := 0) (As := [.int (nI wi)]) (rest := [.int (nI wi), .ref o]) hF (m_X5_kindNow l D cI o a m5 wi hw40 (hI5.L hwi5) (hI5.L4200 hwi5)) ke_X5_kindNow wd_l_X5_98 (by decide) mo_blind (fun U hU hv => ⟨by rw [hU]; exact hM, hK.moved hv⟩) (mo_recv hK hM) rfl hl.1 rfl (Nat.le_of_ble_eq_true rfl) dX5_see_183 hf (fun r19 hr19 => ?_)
                  replace hr19 : r19 = sp_vk (m5 11 (sp_L m5 wi)) := hr19
                  subst hr19
                  refine lv_iload_n hx hb dX5_see_186 rfl (lv_at hl 4 rfl) ?_
                  refine lv_iconst (v := (-1)) hx hb dX5_see_187 (by decide) ?_
                  refine mo_vV (fr := 0) (lo := 0) (As := [.int (nI wi), .int (sp_vk (m5 11 (sp_L m5 wi))), .int (nI di), .int (-1)]) (rest := []) hF (m_X5_makes l D cI o a m5 hMD wi (sp_vk (m5 11 (sp_L m5 wi))) (nI di) (-1) hw40 hI5.K hI5.K4200) ke_X5_makes wd_l_X5_91 (by decide) hK hM hS hA rfl hl.1 rfl (Nat.le_of_ble_eq_true rfl) dX5_see_188 hf (fun mm21 H locs hmm21 hM hS => ?_)
                  subst hmm21
                  refine lv_aload_n hx hb dX5_see_191 rfl (lv_at hl 1 rfl) ?_
                  refine mo_get hF hK hM 17 (by decide) wd_f_X5_55 rfl dX5_see_192 ?_
                  refine lv_iload_n hx hb dX5_see_195 rfl (lv_at hl 3 rfl) ?_
                  refine lv_iconst (v := 0) hx hb dX5_see_196 (by decide) ?_
                  refine mo_ast (mm := sp_make m5 wi (sp_vk (m5 11 (sp_L m5 wi))) (nI di) (-1)) hF hK hM hMD hS hA 17 wi (by decide) rfl (by exact hw40) dX5_see_197 (fun H locs hM hS => ?_)
                  replace hM : mo_H D cI o a (sn_fg (sp_make m5 wi (sp_vk (m5 11 (sp_L m5 wi))) (nI di) (-1)) wi) H := mo_ext hM (fun k hk20 => if_neg (by omega))
                  refine lv_iload hx hb dX5_see_198 (lv_at hl 0 rfl) ?_
                  exact mo_zret hx hb hr hlk (bo_bit evi) hK hM hS (by rw [evi, if_pos c9]; exact see_yes hE hx5 hN5 c9) dX5_see_200
              · skip
                refine lv_aload_n hx hb dX5_see_149 rfl (lv_at hl 0 rfl) ?_
                refine lv_iload_n hx hb dX5_see_150 rfl (lv_at hl 2 rfl) ?_
                refine rc_V (fr := 0) (lo := 0) (As := [.int (nI wi)]) (rest := []) hF (m_X5_directionNow l D cI o a m5 wi hw40 (hI5.L hwi5) (hI5.L4200 hwi5)) ke_X5_directionNow wd_l_X5_101 (by decide) mo_blind (fun U hU hv => ⟨by rw [hU]; exact hM, hK.moved hv⟩) (mo_recv hK hM) rfl hl.1 rfl (Nat.le_of_ble_eq_true rfl) dX5_see_151 hf (fun r22 hr22 => ?_)
                replace hr22 : r22 = sp_vd (m5 11 (sp_L m5 wi)) := hr22
                subst hr22
                refine lv_iload_n hx hb dX5_see_154 rfl (lv_at hl 3 rfl) ?_
                refine lv_icmp_eq (tgt := 171) hx hb dX5_see_155 (by decide) (fun c7 => ?_) (fun c7 => ?_)
                · skip
                  refine lv_iconst (v := 0) hx hb dX5_see_171 (by decide) ?_
                  exact J172 _ (by first | exact bo_n (fun k => k.1 c7) | exact bo_p ⟨c7, hag5.mp c8⟩ | exact bo_n (fun k => c8 (hag5.mpr k.2)))
                · skip
                  refine lv_aload_n hx hb dX5_see_158 rfl (lv_at hl 0 rfl) ?_
                  refine lv_iload_n hx hb dX5_see_159 rfl (lv_at hl 2 rfl) ?_
                  refine lv_iload_n hx hb dX5_see_160 rfl (lv_at hl 3 rfl) ?_
                  refine rc_V (fr := 0) (lo := 0) (As := [.int (nI wi), .int (nI di)]) (rest := []) hF (m_X5_agree l D cI o a m5 wi di n5 f5 g5 h5 hdi hw40 hS5) ke_X5_agree wd_l_X5_149 (by decide) mo_blind (fun U hU hv => ⟨by rw [hU]; exact hM, hK.moved hv⟩) (mo_recv hK hM) rfl hl.1 rfl (Nat.le_of_ble_eq_true rfl) dX5_see_161 hf (fun r23 hr23 => ?_)
                  refine bo_eq (tgt := 171) hr23 hx hb dX5_see_164 (by decide) (fun c8 => ?_) (fun c8 => ?_)
                  · skip
                    refine lv_iconst (v := 0) hx hb dX5_see_171 (by decide) ?_
                    exact J172 _ (by first | exact bo_n (fun k => k.1 c7) | exact bo_p ⟨c7, hag5.mp c8⟩ | exact bo_n (fun k => c8 (hag5.mpr k.2)))
                  · skip
                    refine lv_iconst (v := 1) hx hb dX5_see_167 (by decide) ?_
                    refine lv_goto (tgt := 172) hx hb dX5_see_168 (by decide) ?_
                    exact J172 _ (by first | exact bo_n (fun k => k.1 c7) | exact bo_p ⟨c7, hag5.mp c8⟩ | exact bo_n (fun k => c8 (hag5.mpr k.2)))
            · skip
              have hnr : ¬ sp_nr (up2 mm 19 0 0) ci wi := fun k => k ⟨bo_le c5, bo_le c6⟩
              refine lv_aload_n hx hb dX5_see_96 rfl (lv_at hl 0 rfl) ?_
              refine lv_iconst (v := 3) hx hb dX5_see_97 (by decide) ?_
              refine mo_put (mm := (up2 mm 19 0 0)) hF hK hM hMD hS hA 19 (by decide) wd_f_X5_61 dX5_see_98 (fun H locs hM hS => ?_)
              refine lv_iconst (v := 0) hx hb dX5_see_101 (by decide) ?_
              exact mo_zret hx hb hr hlk (by first | exact Or.inl rfl | exact Or.inr rfl) hK hM hS (by rw [up2_twice]; exact see_no (by rw [sp_see, if_pos cP, if_pos cR, nt_c (by omega), nt_c (by omega), if_neg (show ¬ sp_nr mm ci wi from hnr)]) hN) dX5_see_102
        · skip
          have cR : ¬ sp_rng z q := fun k => c4 k.2
          refine lv_aload_n hx hb dX5_see_49 rfl (lv_at hl 0 rfl) ?_
          refine lv_iconst (v := 2) hx hb dX5_see_50 (by decide) ?_
          refine mo_put (mm := (up2 mm 19 0 0)) hF hK hM hMD hS hA 19 (by decide) wd_f_X5_61 dX5_see_51 (fun H locs hM hS => ?_)
          refine lv_iconst (v := 0) hx hb dX5_see_54 (by decide) ?_
          exact mo_zret hx hb hr hlk (by first | exact Or.inl rfl | exact Or.inr rfl) hK hM hS (by rw [up2_twice]; exact see_no (by rw [sp_see, if_pos cP, if_neg cR]) hN) dX5_see_55
    · skip
      rw [if_neg cP] at hM
      refine lv_iconst (v := 0) hx hb dX5_see_27 (by decide) ?_
      exact mo_zret hx hb hr hlk (by first | exact Or.inl rfl | exact Or.inr rfl) hK hM hS (see_no (by rw [sp_see, if_neg cP]) hN) dX5_see_28
  · skip
    refine lv_iload_n hx hb dX5_see_1 rfl (lv_at hl 1 rfl) ?_
    refine rc_S (fr := 0) (lo := 0) (As := [.int x]) (rest := [.ref o]) hF (m_X5_isCar l x) ke_X5_isCar wd_l_X5_140 (by decide) bl_true (fun _ _ _ => trivial) rfl hl.1 rfl (Nat.le_of_ble_eq_true rfl) dX5_see_2 hf (fun r24 hr24 => ?_)
    refine bo_eq (tgt := 20) hr24 hx hb dX5_see_5 (by decide) (fun c1 => ?_) (fun c1 => ?_)
    · skip
      refine lv_iconst (v := 0) hx hb dX5_see_20 (by decide) ?_
      exact J21 _ (by first | exact bo_y c1 c2 | exact bo_n1 c1 | exact bo_n2 c2)
    · skip
      refine lv_aload_n hx hb dX5_see_8 rfl (lv_at hl 0 rfl) ?_
      refine lv_iload_n hx hb dX5_see_9 rfl (lv_at hl 2 rfl) ?_
      refine rc_V (fr := 0) (lo := 0) (As := [.int y]) (rest := [.ref o]) hF (m_X5_isWay l D cI o a mm y) ke_X5_isWay wd_l_X5_95 (by decide) mo_blind (fun U hU hv => ⟨by rw [hU]; exact hM, hK.moved hv⟩) (mo_recv hK hM) rfl hl.1 rfl (Nat.le_of_ble_eq_true rfl) dX5_see_10 hf (fun r25 hr25 => ?_)
      refine bo_eq (tgt := 20) hr25 hx hb dX5_see_13 (by decide) (fun c2 => ?_) (fun c2 => ?_)
      · skip
        refine lv_iconst (v := 0) hx hb dX5_see_20 (by decide) ?_
        exact J21 _ (by first | exact bo_y c1 c2 | exact bo_n1 c1 | exact bo_n2 c2)
      · skip
        refine lv_iconst (v := 1) hx hb dX5_see_16 (by decide) ?_
        refine lv_goto (tgt := 21) hx hb dX5_see_17 (by decide) ?_
        exact J21 _ (by first | exact bo_y c1 c2 | exact bo_n1 c1 | exact bo_n2 c2)
