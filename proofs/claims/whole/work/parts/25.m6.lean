theorem dX5_draw_0 : decode cX5_draw 0 = .ok (.aload_n 0, 1) := by decide +kernel
theorem dX5_draw_1 : decode cX5_draw 1 = .ok (.iload_n 1, 1) := by decide +kernel
theorem dX5_draw_2 : decode cX5_draw 2 = .ok (.iload_n 2, 1) := by decide +kernel
theorem dX5_draw_3 : decode cX5_draw 3 = .ok (.iload_n 3, 1) := by decide +kernel
theorem dX5_draw_4 : decode cX5_draw 4 = .ok (.invokevirtual 123, 3) := by decide +kernel
theorem dX5_draw_7 : decode cX5_draw 7 = .ok (.istore 4, 2) := by decide +kernel
theorem dX5_draw_9 : decode cX5_draw 9 = .ok (.iload 4, 2) := by decide +kernel
theorem dX5_draw_11 : decode cX5_draw 11 = .ok (.iconst (-1), 1) := by decide +kernel
theorem dX5_draw_12 : decode cX5_draw 12 = .ok (.if_icmp .ne 5, 3) := by decide +kernel
theorem dX5_draw_15 : decode cX5_draw 15 = .ok (.iconst 0, 1) := by decide +kernel
theorem dX5_draw_16 : decode cX5_draw 16 = .ok (.ireturn, 1) := by decide +kernel
theorem dX5_draw_17 : decode cX5_draw 17 = .ok (.aload_n 0, 1) := by decide +kernel
theorem dX5_draw_18 : decode cX5_draw 18 = .ok (.iload 4, 2) := by decide +kernel
theorem dX5_draw_20 : decode cX5_draw 20 = .ok (.iload_n 1, 1) := by decide +kernel
theorem dX5_draw_21 : decode cX5_draw 21 = .ok (.iload_n 2, 1) := by decide +kernel
theorem dX5_draw_22 : decode cX5_draw 22 = .ok (.iload_n 3, 1) := by decide +kernel
theorem dX5_draw_23 : decode cX5_draw 23 = .ok (.invokevirtual 127, 3) := by decide +kernel
theorem dX5_draw_26 : decode cX5_draw 26 = .ok (.iconst 0, 1) := by decide +kernel
theorem dX5_draw_27 : decode cX5_draw 27 = .ok (.istore 5, 2) := by decide +kernel
theorem dX5_draw_29 : decode cX5_draw 29 = .ok (.iconst 0, 1) := by decide +kernel
theorem dX5_draw_30 : decode cX5_draw 30 = .ok (.istore 6, 2) := by decide +kernel
theorem dX5_draw_32 : decode cX5_draw 32 = .ok (.iload 6, 2) := by decide +kernel
theorem dX5_draw_34 : decode cX5_draw 34 = .ok (.aload_n 0, 1) := by decide +kernel
theorem dX5_draw_35 : decode cX5_draw 35 = .ok (.getfield 69, 3) := by decide +kernel
theorem dX5_draw_38 : decode cX5_draw 38 = .ok (.if_icmp .ge 50, 3) := by decide +kernel
theorem dX5_draw_41 : decode cX5_draw 41 = .ok (.iload 5, 2) := by decide +kernel
theorem dX5_draw_43 : decode cX5_draw 43 = .ok (.aload_n 0, 1) := by decide +kernel
theorem dX5_draw_44 : decode cX5_draw 44 = .ok (.getfield 37, 3) := by decide +kernel
theorem dX5_draw_47 : decode cX5_draw 47 = .ok (.aload_n 0, 1) := by decide +kernel
theorem dX5_draw_48 : decode cX5_draw 48 = .ok (.getfield 31, 3) := by decide +kernel
theorem dX5_draw_51 : decode cX5_draw 51 = .ok (.iload 6, 2) := by decide +kernel
theorem dX5_draw_53 : decode cX5_draw 53 = .ok (.iaload, 1) := by decide +kernel
theorem dX5_draw_54 : decode cX5_draw 54 = .ok (.iaload, 1) := by decide +kernel
theorem dX5_draw_55 : decode cX5_draw 55 = .ok (.iload_n 1, 1) := by decide +kernel
theorem dX5_draw_56 : decode cX5_draw 56 = .ok (.invokestatic 112, 3) := by decide +kernel
theorem dX5_draw_59 : decode cX5_draw 59 = .ok (.ifCond .eq 19, 3) := by decide +kernel
theorem dX5_draw_62 : decode cX5_draw 62 = .ok (.aload_n 0, 1) := by decide +kernel
theorem dX5_draw_63 : decode cX5_draw 63 = .ok (.iload 6, 2) := by decide +kernel
theorem dX5_draw_65 : decode cX5_draw 65 = .ok (.iload_n 1, 1) := by decide +kernel
theorem dX5_draw_66 : decode cX5_draw 66 = .ok (.iload_n 2, 1) := by decide +kernel
theorem dX5_draw_67 : decode cX5_draw 67 = .ok (.iload_n 3, 1) := by decide +kernel
theorem dX5_draw_68 : decode cX5_draw 68 = .ok (.invokevirtual 115, 3) := by decide +kernel
theorem dX5_draw_71 : decode cX5_draw 71 = .ok (.ifCond .eq 7, 3) := by decide +kernel
theorem dX5_draw_74 : decode cX5_draw 74 = .ok (.iconst 1, 1) := by decide +kernel
theorem dX5_draw_75 : decode cX5_draw 75 = .ok (.goto 4, 3) := by decide +kernel
theorem dX5_draw_78 : decode cX5_draw 78 = .ok (.iconst 0, 1) := by decide +kernel
theorem dX5_draw_79 : decode cX5_draw 79 = .ok (.iadd, 1) := by decide +kernel
theorem dX5_draw_80 : decode cX5_draw 80 = .ok (.istore 5, 2) := by decide +kernel
theorem dX5_draw_82 : decode cX5_draw 82 = .ok (.iinc 6 1, 3) := by decide +kernel
theorem dX5_draw_85 : decode cX5_draw 85 = .ok (.goto (-53), 3) := by decide +kernel
theorem dX5_draw_88 : decode cX5_draw 88 = .ok (.iload 5, 2) := by decide +kernel
theorem dX5_draw_90 : decode cX5_draw 90 = .ok (.ireturn, 1) := by decide +kernel
theorem dX5_drawn_0 : decode cX5_drawn 0 = .ok (.bipush 17, 2) := by decide +kernel
theorem dX5_drawn_2 : decode cX5_drawn 2 = .ok (.istore 5, 2) := by decide +kernel
theorem dX5_drawn_4 : decode cX5_drawn 4 = .ok (.iconst 0, 1) := by decide +kernel
theorem dX5_drawn_5 : decode cX5_drawn 5 = .ok (.istore 6, 2) := by decide +kernel
theorem dX5_drawn_7 : decode cX5_drawn 7 = .ok (.iload 6, 2) := by decide +kernel
theorem dX5_drawn_9 : decode cX5_drawn 9 = .ok (.aload_n 0, 1) := by decide +kernel
theorem dX5_drawn_10 : decode cX5_drawn 10 = .ok (.getfield 69, 3) := by decide +kernel
theorem dX5_drawn_13 : decode cX5_drawn 13 = .ok (.if_icmp .ge 119, 3) := by decide +kernel
theorem dX5_drawn_16 : decode cX5_drawn 16 = .ok (.aload_n 0, 1) := by decide +kernel
theorem dX5_drawn_17 : decode cX5_drawn 17 = .ok (.getfield 31, 3) := by decide +kernel
theorem dX5_drawn_20 : decode cX5_drawn 20 = .ok (.iload 6, 2) := by decide +kernel
theorem dX5_drawn_22 : decode cX5_drawn 22 = .ok (.iaload, 1) := by decide +kernel
theorem dX5_drawn_23 : decode cX5_drawn 23 = .ok (.istore 7, 2) := by decide +kernel
theorem dX5_drawn_25 : decode cX5_drawn 25 = .ok (.iload 7, 2) := by decide +kernel
theorem dX5_drawn_27 : decode cX5_drawn 27 = .ok (.iconst (-1), 1) := by decide +kernel
theorem dX5_drawn_28 : decode cX5_drawn 28 = .ok (.if_icmp .eq 22, 3) := by decide +kernel
theorem dX5_drawn_31 : decode cX5_drawn 31 = .ok (.iload 7, 2) := by decide +kernel
theorem dX5_drawn_33 : decode cX5_drawn 33 = .ok (.iload 4, 2) := by decide +kernel
theorem dX5_drawn_35 : decode cX5_drawn 35 = .ok (.if_icmp .lt 15, 3) := by decide +kernel
theorem dX5_drawn_38 : decode cX5_drawn 38 = .ok (.aload_n 0, 1) := by decide +kernel
theorem dX5_drawn_39 : decode cX5_drawn 39 = .ok (.getfield 40, 3) := by decide +kernel
theorem dX5_drawn_42 : decode cX5_drawn 42 = .ok (.iload 7, 2) := by decide +kernel
theorem dX5_drawn_44 : decode cX5_drawn 44 = .ok (.iaload, 1) := by decide +kernel
theorem dX5_drawn_45 : decode cX5_drawn 45 = .ok (.istore 7, 2) := by decide +kernel
theorem dX5_drawn_47 : decode cX5_drawn 47 = .ok (.goto (-22), 3) := by decide +kernel
theorem dX5_drawn_50 : decode cX5_drawn 50 = .ok (.iload 7, 2) := by decide +kernel
theorem dX5_drawn_52 : decode cX5_drawn 52 = .ok (.iconst (-1), 1) := by decide +kernel
theorem dX5_drawn_53 : decode cX5_drawn 53 = .ok (.if_icmp .eq 73, 3) := by decide +kernel
theorem dX5_drawn_56 : decode cX5_drawn 56 = .ok (.aload_n 0, 1) := by decide +kernel
theorem dX5_drawn_57 : decode cX5_drawn 57 = .ok (.getfield 37, 3) := by decide +kernel
theorem dX5_drawn_60 : decode cX5_drawn 60 = .ok (.iload 7, 2) := by decide +kernel
theorem dX5_drawn_62 : decode cX5_drawn 62 = .ok (.iaload, 1) := by decide +kernel
theorem dX5_drawn_63 : decode cX5_drawn 63 = .ok (.iload_n 1, 1) := by decide +kernel
theorem dX5_drawn_64 : decode cX5_drawn 64 = .ok (.invokestatic 112, 3) := by decide +kernel
theorem dX5_drawn_67 : decode cX5_drawn 67 = .ok (.ifCond .eq 59, 3) := by decide +kernel
theorem dX5_drawn_70 : decode cX5_drawn 70 = .ok (.aload_n 0, 1) := by decide +kernel
theorem dX5_drawn_71 : decode cX5_drawn 71 = .ok (.iload 6, 2) := by decide +kernel
theorem dX5_drawn_73 : decode cX5_drawn 73 = .ok (.iload_n 1, 1) := by decide +kernel
theorem dX5_drawn_74 : decode cX5_drawn 74 = .ok (.iload_n 2, 1) := by decide +kernel
theorem dX5_drawn_75 : decode cX5_drawn 75 = .ok (.iload_n 3, 1) := by decide +kernel
theorem dX5_drawn_76 : decode cX5_drawn 76 = .ok (.invokevirtual 115, 3) := by decide +kernel
theorem dX5_drawn_79 : decode cX5_drawn 79 = .ok (.ifCond .eq 47, 3) := by decide +kernel
theorem dX5_drawn_82 : decode cX5_drawn 82 = .ok (.bipush 31, 2) := by decide +kernel
theorem dX5_drawn_84 : decode cX5_drawn 84 = .ok (.iload 5, 2) := by decide +kernel
theorem dX5_drawn_86 : decode cX5_drawn 86 = .ok (.imul, 1) := by decide +kernel
theorem dX5_drawn_87 : decode cX5_drawn 87 = .ok (.bipush 16, 2) := by decide +kernel
theorem dX5_drawn_89 : decode cX5_drawn 89 = .ok (.iload 6, 2) := by decide +kernel
theorem dX5_drawn_91 : decode cX5_drawn 91 = .ok (.imul, 1) := by decide +kernel
theorem dX5_drawn_92 : decode cX5_drawn 92 = .ok (.iadd, 1) := by decide +kernel
theorem dX5_drawn_93 : decode cX5_drawn 93 = .ok (.iconst 4, 1) := by decide +kernel
theorem dX5_drawn_94 : decode cX5_drawn 94 = .ok (.aload_n 0, 1) := by decide +kernel
theorem dX5_drawn_95 : decode cX5_drawn 95 = .ok (.getfield 37, 3) := by decide +kernel
theorem dX5_drawn_98 : decode cX5_drawn 98 = .ok (.iload 7, 2) := by decide +kernel
theorem dX5_drawn_100 : decode cX5_drawn 100 = .ok (.iaload, 1) := by decide +kernel
theorem dX5_drawn_101 : decode cX5_drawn 101 = .ok (.sipush 1000, 3) := by decide +kernel
theorem dX5_drawn_104 : decode cX5_drawn 104 = .ok (.irem, 1) := by decide +kernel
theorem dX5_drawn_105 : decode cX5_drawn 105 = .ok (.bipush 100, 2) := by decide +kernel
theorem dX5_drawn_107 : decode cX5_drawn 107 = .ok (.idiv, 1) := by decide +kernel
theorem dX5_drawn_108 : decode cX5_drawn 108 = .ok (.imul, 1) := by decide +kernel
theorem dX5_drawn_109 : decode cX5_drawn 109 = .ok (.iadd, 1) := by decide +kernel
theorem dX5_drawn_110 : decode cX5_drawn 110 = .ok (.aload_n 0, 1) := by decide +kernel
theorem dX5_drawn_111 : decode cX5_drawn 111 = .ok (.getfield 37, 3) := by decide +kernel
theorem dX5_drawn_114 : decode cX5_drawn 114 = .ok (.iload 7, 2) := by decide +kernel
theorem dX5_drawn_116 : decode cX5_drawn 116 = .ok (.iaload, 1) := by decide +kernel
theorem dX5_drawn_117 : decode cX5_drawn 117 = .ok (.bipush 100, 2) := by decide +kernel
theorem dX5_drawn_119 : decode cX5_drawn 119 = .ok (.irem, 1) := by decide +kernel
theorem dX5_drawn_120 : decode cX5_drawn 120 = .ok (.bipush 10, 2) := by decide +kernel
theorem dX5_drawn_122 : decode cX5_drawn 122 = .ok (.idiv, 1) := by decide +kernel
theorem dX5_drawn_123 : decode cX5_drawn 123 = .ok (.iadd, 1) := by decide +kernel
theorem dX5_drawn_124 : decode cX5_drawn 124 = .ok (.istore 5, 2) := by decide +kernel
theorem dX5_drawn_126 : decode cX5_drawn 126 = .ok (.iinc 6 1, 3) := by decide +kernel
theorem dX5_drawn_129 : decode cX5_drawn 129 = .ok (.goto (-122), 3) := by decide +kernel
theorem dX5_drawn_132 : decode cX5_drawn 132 = .ok (.iload 5, 2) := by decide +kernel
theorem dX5_drawn_134 : decode cX5_drawn 134 = .ok (.ireturn, 1) := by decide +kernel
theorem dX5_draws_0 : decode cX5_draws 0 = .ok (.aload_n 0, 1) := by decide +kernel
theorem dX5_draws_1 : decode cX5_draws 1 = .ok (.getfield 46, 3) := by decide +kernel
theorem dX5_draws_4 : decode cX5_draws 4 = .ok (.iload_n 1, 1) := by decide +kernel
theorem dX5_draws_5 : decode cX5_draws 5 = .ok (.aload_n 0, 1) := by decide +kernel
theorem dX5_draws_6 : decode cX5_draws 6 = .ok (.iload_n 2, 1) := by decide +kernel
theorem dX5_draws_7 : decode cX5_draws 7 = .ok (.iload_n 3, 1) := by decide +kernel
theorem dX5_draws_8 : decode cX5_draws 8 = .ok (.iload 4, 2) := by decide +kernel
theorem dX5_draws_10 : decode cX5_draws 10 = .ok (.aload_n 0, 1) := by decide +kernel
theorem dX5_draws_11 : decode cX5_draws 11 = .ok (.getfield 72, 3) := by decide +kernel
theorem dX5_draws_14 : decode cX5_draws 14 = .ok (.invokevirtual 119, 3) := by decide +kernel
theorem dX5_draws_17 : decode cX5_draws 17 = .ok (.iastore, 1) := by decide +kernel
theorem dX5_draws_18 : decode cX5_draws 18 = .ok (.aload_n 0, 1) := by decide +kernel
theorem dX5_draws_19 : decode cX5_draws 19 = .ok (.getfield 43, 3) := by decide +kernel
theorem dX5_draws_22 : decode cX5_draws 22 = .ok (.iload_n 1, 1) := by decide +kernel
theorem dX5_draws_23 : decode cX5_draws 23 = .ok (.aload_n 0, 1) := by decide +kernel
theorem dX5_draws_24 : decode cX5_draws 24 = .ok (.getfield 72, 3) := by decide +kernel
theorem dX5_draws_27 : decode cX5_draws 27 = .ok (.iconst 1, 1) := by decide +kernel
theorem dX5_draws_28 : decode cX5_draws 28 = .ok (.iadd, 1) := by decide +kernel
theorem dX5_draws_29 : decode cX5_draws 29 = .ok (.iastore, 1) := by decide +kernel
theorem dX5_draws_30 : decode cX5_draws 30 = .ok (.return_, 1) := by decide +kernel
theorem dX5_picture_0 : decode cX5_picture 0 = .ok (.aload_n 0, 1) := by decide +kernel
theorem dX5_picture_1 : decode cX5_picture 1 = .ok (.iload_n 1, 1) := by decide +kernel
theorem dX5_picture_2 : decode cX5_picture 2 = .ok (.iload_n 2, 1) := by decide +kernel
theorem dX5_picture_3 : decode cX5_picture 3 = .ok (.iload_n 3, 1) := by decide +kernel
theorem dX5_picture_4 : decode cX5_picture 4 = .ok (.invokevirtual 123, 3) := by decide +kernel
theorem dX5_picture_7 : decode cX5_picture 7 = .ok (.istore 4, 2) := by decide +kernel
theorem dX5_picture_9 : decode cX5_picture 9 = .ok (.iload 4, 2) := by decide +kernel
theorem dX5_picture_11 : decode cX5_picture 11 = .ok (.iconst (-1), 1) := by decide +kernel
theorem dX5_picture_12 : decode cX5_picture 12 = .ok (.if_icmp .ne 5, 3) := by decide +kernel
theorem dX5_picture_15 : decode cX5_picture 15 = .ok (.iconst 0, 1) := by decide +kernel
theorem dX5_picture_16 : decode cX5_picture 16 = .ok (.ireturn, 1) := by decide +kernel
theorem dX5_picture_17 : decode cX5_picture 17 = .ok (.aload_n 0, 1) := by decide +kernel
theorem dX5_picture_18 : decode cX5_picture 18 = .ok (.getfield 43, 3) := by decide +kernel
theorem dX5_picture_21 : decode cX5_picture 21 = .ok (.iload 4, 2) := by decide +kernel
theorem dX5_picture_23 : decode cX5_picture 23 = .ok (.iaload, 1) := by decide +kernel
theorem dX5_picture_24 : decode cX5_picture 24 = .ok (.ifCond .ne 11, 3) := by decide +kernel
theorem dX5_picture_27 : decode cX5_picture 27 = .ok (.aload_n 0, 1) := by decide +kernel
theorem dX5_picture_28 : decode cX5_picture 28 = .ok (.iconst 2, 1) := by decide +kernel
theorem dX5_picture_29 : decode cX5_picture 29 = .ok (.invokevirtual 87, 3) := by decide +kernel
theorem dX5_picture_32 : decode cX5_picture 32 = .ok (.goto 10, 3) := by decide +kernel
theorem dX5_picture_35 : decode cX5_picture 35 = .ok (.aload_n 0, 1) := by decide +kernel
theorem dX5_picture_36 : decode cX5_picture 36 = .ok (.getfield 46, 3) := by decide +kernel
theorem dX5_picture_39 : decode cX5_picture 39 = .ok (.iload 4, 2) := by decide +kernel
theorem dX5_picture_41 : decode cX5_picture 41 = .ok (.iaload, 1) := by decide +kernel
theorem dX5_picture_42 : decode cX5_picture 42 = .ok (.ireturn, 1) := by decide +kernel
theorem dX5_pictureAnew_0 : decode cX5_pictureAnew 0 = .ok (.aload_n 0, 1) := by decide +kernel
theorem dX5_pictureAnew_1 : decode cX5_pictureAnew 1 = .ok (.iload_n 1, 1) := by decide +kernel
theorem dX5_pictureAnew_2 : decode cX5_pictureAnew 2 = .ok (.iload_n 2, 1) := by decide +kernel
theorem dX5_pictureAnew_3 : decode cX5_pictureAnew 3 = .ok (.iload_n 3, 1) := by decide +kernel
theorem dX5_pictureAnew_4 : decode cX5_pictureAnew 4 = .ok (.invokevirtual 123, 3) := by decide +kernel
theorem dX5_pictureAnew_7 : decode cX5_pictureAnew 7 = .ok (.istore 4, 2) := by decide +kernel
theorem dX5_pictureAnew_9 : decode cX5_pictureAnew 9 = .ok (.iload 4, 2) := by decide +kernel
theorem dX5_pictureAnew_11 : decode cX5_pictureAnew 11 = .ok (.iconst (-1), 1) := by decide +kernel
theorem dX5_pictureAnew_12 : decode cX5_pictureAnew 12 = .ok (.if_icmp .ne 5, 3) := by decide +kernel
theorem dX5_pictureAnew_15 : decode cX5_pictureAnew 15 = .ok (.iconst 0, 1) := by decide +kernel
theorem dX5_pictureAnew_16 : decode cX5_pictureAnew 16 = .ok (.ireturn, 1) := by decide +kernel
theorem dX5_pictureAnew_17 : decode cX5_pictureAnew 17 = .ok (.aload_n 0, 1) := by decide +kernel
theorem dX5_pictureAnew_18 : decode cX5_pictureAnew 18 = .ok (.getfield 43, 3) := by decide +kernel
theorem dX5_pictureAnew_21 : decode cX5_pictureAnew 21 = .ok (.iload 4, 2) := by decide +kernel
theorem dX5_pictureAnew_23 : decode cX5_pictureAnew 23 = .ok (.iaload, 1) := by decide +kernel
theorem dX5_pictureAnew_24 : decode cX5_pictureAnew 24 = .ok (.ifCond .ne 11, 3) := by decide +kernel
theorem dX5_pictureAnew_27 : decode cX5_pictureAnew 27 = .ok (.aload_n 0, 1) := by decide +kernel
theorem dX5_pictureAnew_28 : decode cX5_pictureAnew 28 = .ok (.iconst 2, 1) := by decide +kernel
theorem dX5_pictureAnew_29 : decode cX5_pictureAnew 29 = .ok (.invokevirtual 87, 3) := by decide +kernel
theorem dX5_pictureAnew_32 : decode cX5_pictureAnew 32 = .ok (.goto 19, 3) := by decide +kernel
theorem dX5_pictureAnew_35 : decode cX5_pictureAnew 35 = .ok (.aload_n 0, 1) := by decide +kernel
theorem dX5_pictureAnew_36 : decode cX5_pictureAnew 36 = .ok (.iload_n 1, 1) := by decide +kernel
theorem dX5_pictureAnew_37 : decode cX5_pictureAnew 37 = .ok (.iload_n 2, 1) := by decide +kernel
theorem dX5_pictureAnew_38 : decode cX5_pictureAnew 38 = .ok (.iload_n 3, 1) := by decide +kernel
theorem dX5_pictureAnew_39 : decode cX5_pictureAnew 39 = .ok (.aload_n 0, 1) := by decide +kernel
theorem dX5_pictureAnew_40 : decode cX5_pictureAnew 40 = .ok (.getfield 43, 3) := by decide +kernel
theorem dX5_pictureAnew_43 : decode cX5_pictureAnew 43 = .ok (.iload 4, 2) := by decide +kernel
theorem dX5_pictureAnew_45 : decode cX5_pictureAnew 45 = .ok (.iaload, 1) := by decide +kernel
theorem dX5_pictureAnew_46 : decode cX5_pictureAnew 46 = .ok (.iconst 1, 1) := by decide +kernel
theorem dX5_pictureAnew_47 : decode cX5_pictureAnew 47 = .ok (.isub, 1) := by decide +kernel
theorem dX5_pictureAnew_48 : decode cX5_pictureAnew 48 = .ok (.invokevirtual 119, 3) := by decide +kernel
theorem dX5_pictureAnew_51 : decode cX5_pictureAnew 51 = .ok (.ireturn, 1) := by decide +kernel
theorem dX5_tileStamp_0 : decode cX5_tileStamp 0 = .ok (.aload_n 0, 1) := by decide +kernel
theorem dX5_tileStamp_1 : decode cX5_tileStamp 1 = .ok (.iload_n 1, 1) := by decide +kernel
theorem dX5_tileStamp_2 : decode cX5_tileStamp 2 = .ok (.iload_n 2, 1) := by decide +kernel
theorem dX5_tileStamp_3 : decode cX5_tileStamp 3 = .ok (.iload_n 3, 1) := by decide +kernel
theorem dX5_tileStamp_4 : decode cX5_tileStamp 4 = .ok (.invokevirtual 123, 3) := by decide +kernel
theorem dX5_tileStamp_7 : decode cX5_tileStamp 7 = .ok (.istore 4, 2) := by decide +kernel
theorem dX5_tileStamp_9 : decode cX5_tileStamp 9 = .ok (.iload 4, 2) := by decide +kernel
theorem dX5_tileStamp_11 : decode cX5_tileStamp 11 = .ok (.iconst (-1), 1) := by decide +kernel
theorem dX5_tileStamp_12 : decode cX5_tileStamp 12 = .ok (.if_icmp .ne 7, 3) := by decide +kernel
theorem dX5_tileStamp_15 : decode cX5_tileStamp 15 = .ok (.iconst 0, 1) := by decide +kernel
theorem dX5_tileStamp_16 : decode cX5_tileStamp 16 = .ok (.goto 12, 3) := by decide +kernel
theorem dX5_tileStamp_19 : decode cX5_tileStamp 19 = .ok (.aload_n 0, 1) := by decide +kernel
theorem dX5_tileStamp_20 : decode cX5_tileStamp 20 = .ok (.getfield 43, 3) := by decide +kernel
theorem dX5_tileStamp_23 : decode cX5_tileStamp 23 = .ok (.iload 4, 2) := by decide +kernel
theorem dX5_tileStamp_25 : decode cX5_tileStamp 25 = .ok (.iaload, 1) := by decide +kernel
theorem dX5_tileStamp_26 : decode cX5_tileStamp 26 = .ok (.iconst 1, 1) := by decide +kernel
theorem dX5_tileStamp_27 : decode cX5_tileStamp 27 = .ok (.isub, 1) := by decide +kernel
theorem dX5_tileStamp_28 : decode cX5_tileStamp 28 = .ok (.ireturn, 1) := by decide +kernel
theorem ke_X5_drawn : wl_V RX5 yX5_drawn cX5_drawn 8 (some .int) 4 := ⟨wd_c_X5_drawn, wd_i_X5_drawn, wd_s_X5_drawn, wd_n_X5, by decide, by decide +kernel⟩
set_option maxHeartbeats 4000000 in
set_option maxRecDepth 100000 in
theorem m_X5_drawn (l : Launch) (D : va_G) (cI : ClassId) (o : Nat) (a : Nat → Nat) (mm : q_Mem) (z x y : Int32) (u : Nat) (hI : Inv mm) (hu : u < 2 ^ 31) : rc_C l yX5_drawn cX5_drawn 8 (some .int) 1 25 [.ref o, .int z, .int x, .int y, .int (nI u)] (mo_B D cI o a mm) (fun r => r = sp_pic mm z x y u) := by
  refine rc_of (by decide) (Nat.le_of_ble_eq_true rfl) ?_
  intro p e s m args below meth c hx hb hr hF hlk hB ls hl
  obtain ⟨hM, hK⟩ := hB
  have hl : lv_has ls 8 [(0, .ref o), (1, .int z), (2, .int x), (3, .int y), (4, .int (nI u))] := hl
  have hf : (0 : Nat) ≤ 0 ∧ (0 : Nat) ≤ 0 := ⟨Nat.le_refl 0, Nat.le_refl 0⟩
  refine lv_bipush (v := 17) hx hb dX5_drawn_0 (by decide) ?_
  refine lv_istore (lv' := [(5, .int 17), (0, .ref o), (1, .int z), (2, .int x), (3, .int y), (4, .int (nI u))]) hx hb dX5_drawn_2 hl (by decide) rfl (fun ls hl => ?_)
  refine lv_iconst (v := 0) hx hb dX5_drawn_4 (by decide) ?_
  refine lv_istore (lv' := [(6, .int 0), (5, .int 17), (0, .ref o), (1, .int z), (2, .int x), (3, .int y), (4, .int (nI u))]) hx hb dX5_drawn_5 hl (by decide) rfl (fun ls hl => ?_)
  refine bo_loop (σ := Nat) (μ := fun (i : Nat) => sp_W mm - i) (I := fun (i : Nat) (H : Heap) (locs : List Loc) (ls : Array Slot) => H = s.heap ∧ locs = [] ∧ lv_has ls 8 [(5, .int (it_n (sp_pic1 mm z x y u) i 17)), (6, .int (nI i)), (0, .ref o), (1, .int z), (2, .int x), (3, .int y), (4, .int (nI u))] ∧ (i ≤ sp_W mm)) (0) ⟨rfl, rfl, lv_sub hl [1, 0, 2, 3, 4, 5, 6] rfl, Nat.zero_le _⟩ ?_
  intro x7 H locs ls hI7 ih7
  obtain ⟨i, ex7⟩ : ∃ z, z = x7 := ⟨_, rfl⟩
  subst ex7
  obtain ⟨rfl, rfl, hl, hp⟩ := hI7
  refine lv_iload hx hb dX5_drawn_7 (lv_at hl 1 rfl) ?_
  refine lv_aload_n hx hb dX5_drawn_9 rfl (lv_at hl 2 rfl) ?_
  refine mo_get hF hK hM 1 (by decide) wd_f_X5_69 rfl dX5_drawn_10 ?_
  refine lv_icmp_ge (tgt := 132) hx hb dX5_drawn_13 (by decide) (fun c1 => ?_) (fun c1 => ?_)
  · skip
    have hi := W_end hI hp c1
    refine lv_iload hx hb dX5_drawn_132 (lv_at hl 0 rfl) ?_
    exact rc_iret hx hb hr hlk (by rw [hi]; rfl) dX5_drawn_134
  · skip
    have hi := W_in hI hp c1
    have h40 := hI.W40
    have hKK := hI.K512
    have hL := hI.L hi
    have hLK := hI.LK hi
    refine lv_aload_n hx hb dX5_drawn_16 rfl (lv_at hl 2 rfl) ?_
    refine mo_get hF hK hM 8 (by decide) wd_f_X5_31 rfl dX5_drawn_17 ?_
    refine lv_iload hx hb dX5_drawn_20 (lv_at hl 1 rfl) ?_
    refine mo_ald hF hK hM 8 i (by decide) rfl (show i < 40 by omega) dX5_drawn_22 ?_
    refine lv_istore (lv' := [(7, .int (mm 8 i)), (5, .int (it_n (sp_pic1 mm z x y u) i 17)), (6, .int (nI i)), (0, .ref o), (1, .int z), (2, .int x), (3, .int y), (4, .int (nI u))]) hx hb dX5_drawn_23 hl (by decide) rfl (fun ls hl => ?_)
    refine bo_loop (σ := Nat × Int32) (μ := fun (qx : Nat × Int32) => match qx with | (n, va) => n) (I := fun (qx : Nat × Int32) (H : Heap) (locs : List Loc) (ls : Array Slot) => match qx with | (n, va) => H = s.heap ∧ locs = [] ∧ lv_has ls 8 [(7, .int va), (0, .ref o), (1, .int z), (2, .int x), (3, .int y), (4, .int (nI u)), (5, .int (it_n (sp_pic1 mm z x y u) i 17)), (6, .int (nI i))] ∧ (sp_seek mm u n va = sp_vis mm i u) ∧ (va = -1 ∨ ∃ j, j < sp_K mm ∧ va = nI j ∧ j < n)) ((600, mm 8 i)) ⟨rfl, rfl, lv_sub hl [0, 3, 4, 5, 6, 7, 1, 2] rfl, rfl, Or.inr ⟨sp_L mm i, hLK, hL, by omega⟩⟩ ?_
    intro x25 H locs ls hI25 ih25
    obtain ⟨n, va⟩ := x25
    obtain ⟨rfl, rfl, hl, hp2, hp3⟩ := hI25
    refine lv_iload hx hb dX5_drawn_25 (lv_at hl 0 rfl) ?_
    refine lv_iconst (v := (-1)) hx hb dX5_drawn_27 (by decide) ?_
    refine lv_icmp_eq (tgt := 50) hx hb dX5_drawn_28 (by decide) (fun c2 => ?_) (fun c2 => ?_)
    · skip
      have hv : va = sp_vis mm i u := by rw [← hp2]; exact (seek_nil c2).symm
      refine lv_iload hx hb dX5_drawn_50 (lv_at hl 0 rfl) ?_
      refine lv_iconst (v := (-1)) hx hb dX5_drawn_52 (by decide) ?_
      refine lv_icmp_eq (tgt := 126) hx hb dX5_drawn_53 (by decide) (fun c4 => ?_) (fun c4 => ?_)
      · skip
        have hs := pic_no (mm := mm) (z := z) (x := x) (y := y) (u := u) (i := i) (q := 17) (fun q => q.1 (hv.symm.trans c2))
        rw [hs] at hl
        refine lv_iinc (v := (nI (i + 1))) (lv' := [(6, .int (nI (i + 1))), (7, .int va), (0, .ref o), (1, .int z), (2, .int x), (3, .int y), (4, .int (nI u)), (5, .int (it_n (sp_pic1 mm z x y u) (i + 1) 17))]) hx hb dX5_drawn_126 hl (k := 7) rfl (nI_1 i) (by decide) rfl (fun ls hl => ?_)
        refine lv_goto (tgt := 7) hx hb dX5_drawn_129 (by decide) ?_
        exact ih7 (i + 1) _ _ _ (by show sp_W mm - (i + 1) < sp_W mm - i; omega) ⟨rfl, rfl, lv_sub hl [7, 0, 2, 3, 4, 5, 6] rfl, by omega⟩
      · skip
        exact absurd c2 c4
    · skip
      obtain ⟨j, hj, ej, hjn⟩ := hp3.resolve_left c2
      subst ej
      have hj31 : j < 2 ^ 31 := by omega
      refine lv_iload hx hb dX5_drawn_31 (lv_at hl 0 rfl) ?_
      refine lv_iload hx hb dX5_drawn_33 (lv_at hl 5 rfl) ?_
      refine lv_icmp_lt (tgt := 50) hx hb dX5_drawn_35 (by decide) (fun c3 => ?_) (fun c3 => ?_)
      · skip
        have hv : nI j = sp_vis mm i u := by rw [← hp2]; exact (seek_lt hj31 ((nI_ltI hj31 hu).mp c3)).symm
        refine lv_iload hx hb dX5_drawn_50 (lv_at hl 0 rfl) ?_
        refine lv_iconst (v := (-1)) hx hb dX5_drawn_52 (by decide) ?_
        refine lv_icmp_eq (tgt := 126) hx hb dX5_drawn_53 (by decide) (fun c4 => ?_) (fun c4 => ?_)
        · skip
          exact absurd c4 (nI_nm1 hj31)
        · skip
          refine lv_aload_n hx hb dX5_drawn_56 rfl (lv_at hl 1 rfl) ?_
          refine mo_get hF hK hM 11 (by decide) wd_f_X5_37 rfl dX5_drawn_57 ?_
          refine lv_iload hx hb dX5_drawn_60 (lv_at hl 0 rfl) ?_
          refine mo_ald hF hK hM 11 j (by decide) rfl (show j < 4200 by omega) dX5_drawn_62 ?_
          refine lv_iload_n hx hb dX5_drawn_63 rfl (lv_at hl 2 rfl) ?_
          refine rc_S (fr := 0) (lo := 0) (As := [.int (mm 11 j), .int z]) (rest := []) hF (m_X5_isShown l (mm 11 j) z) ke_X5_isShown wd_l_X5_112 (by decide) bl_true (fun _ _ _ => trivial) rfl hl.1 rfl (Nat.le_of_ble_eq_true rfl) dX5_drawn_64 hf (fun r1 hr1 => ?_)
          refine bo_eq (tgt := 126) hr1 hx hb dX5_drawn_67 (by decide) (fun c5 => ?_) (fun c5 => ?_)
          · skip
            have hs := pic_no (mm := mm) (z := z) (x := x) (y := y) (u := u) (i := i) (q := 17) (fun q => c5 (by have q2 := q.2.1; rw [← hv, nI_clamp hj31] at q2; exact q2))
            rw [hs] at hl
            refine lv_iinc (v := (nI (i + 1))) (lv' := [(6, .int (nI (i + 1))), (7, .int (nI j)), (0, .ref o), (1, .int z), (2, .int x), (3, .int y), (4, .int (nI u)), (5, .int (it_n (sp_pic1 mm z x y u) (i + 1) 17))]) hx hb dX5_drawn_126 hl (k := 7) rfl (nI_1 i) (by decide) rfl (fun ls hl => ?_)
            refine lv_goto (tgt := 7) hx hb dX5_drawn_129 (by decide) ?_
            exact ih7 (i + 1) _ _ _ (by show sp_W mm - (i + 1) < sp_W mm - i; omega) ⟨rfl, rfl, lv_sub hl [7, 0, 2, 3, 4, 5, 6] rfl, by omega⟩
          · skip
            refine lv_aload_n hx hb dX5_drawn_70 rfl (lv_at hl 1 rfl) ?_
            refine lv_iload hx hb dX5_drawn_71 (lv_at hl 7 rfl) ?_
            refine lv_iload_n hx hb dX5_drawn_73 rfl (lv_at hl 2 rfl) ?_
            refine lv_iload_n hx hb dX5_drawn_74 rfl (lv_at hl 3 rfl) ?_
            refine lv_iload_n hx hb dX5_drawn_75 rfl (lv_at hl 4 rfl) ?_
            refine rc_V (fr := 0) (lo := 0) (As := [.int (nI i), .int z, .int x, .int y]) (rest := []) hF (m_X5_isIn l D cI o a mm i z x y (by omega)) ke_X5_isIn wd_l_X5_115 (by decide) mo_blind (fun U hU hv => ⟨by rw [hU]; exact hM, hK.moved hv⟩) (mo_recv hK hM) rfl hl.1 rfl (Nat.le_of_ble_eq_true rfl) dX5_drawn_76 hf (fun r2 hr2 => ?_)
            refine bo_eq (tgt := 126) hr2 hx hb dX5_drawn_79 (by decide) (fun c6 => ?_) (fun c6 => ?_)
            · skip
              have hs := pic_no (mm := mm) (z := z) (x := x) (y := y) (u := u) (i := i) (q := 17) (fun q => c6 q.2.2)
              rw [hs] at hl
              refine lv_iinc (v := (nI (i + 1))) (lv' := [(6, .int (nI (i + 1))), (7, .int (nI j)), (0, .ref o), (1, .int z), (2, .int x), (3, .int y), (4, .int (nI u)), (5, .int (it_n (sp_pic1 mm z x y u) (i + 1) 17))]) hx hb dX5_drawn_126 hl (k := 7) rfl (nI_1 i) (by decide) rfl (fun ls hl => ?_)
              refine lv_goto (tgt := 7) hx hb dX5_drawn_129 (by decide) ?_
              exact ih7 (i + 1) _ _ _ (by show sp_W mm - (i + 1) < sp_W mm - i; omega) ⟨rfl, rfl, lv_sub hl [7, 0, 2, 3, 4, 5, 6] rfl, by omega⟩
            · skip
              refine lv_bipush (v := 31) hx hb dX5_drawn_82 (by decide) ?_
              refine lv_iload hx hb dX5_drawn_84 (lv_at hl 6 rfl) ?_
              refine lv_imul hx hb dX5_drawn_86 ?_
              refine lv_bipush (v := 16) hx hb dX5_drawn_87 (by decide) ?_
              refine lv_iload hx hb dX5_drawn_89 (lv_at hl 7 rfl) ?_
              refine lv_imul hx hb dX5_drawn_91 ?_
              refine lv_iadd hx hb dX5_drawn_92 ?_
              refine lv_iconst (v := 4) hx hb dX5_drawn_93 (by decide) ?_
              refine lv_aload_n hx hb dX5_drawn_94 rfl (lv_at hl 1 rfl) ?_
              refine mo_get hF hK hM 11 (by decide) wd_f_X5_37 rfl dX5_drawn_95 ?_
              refine lv_iload hx hb dX5_drawn_98 (lv_at hl 0 rfl) ?_
              refine mo_ald hF hK hM 11 j (by decide) rfl (show j < 4200 by omega) dX5_drawn_100 ?_
              refine lv_sipush (v := 1000) hx hb dX5_drawn_101 (by decide) ?_
              refine lv_irem hx hb dX5_drawn_104 (by decide) ?_
              refine lv_bipush (v := 100) hx hb dX5_drawn_105 (by decide) ?_
              refine lv_idiv hx hb dX5_drawn_107 (by decide) ?_
              refine lv_imul hx hb dX5_drawn_108 ?_
              refine lv_iadd hx hb dX5_drawn_109 ?_
              refine lv_aload_n hx hb dX5_drawn_110 rfl (lv_at hl 1 rfl) ?_
              refine mo_get hF hK hM 11 (by decide) wd_f_X5_37 rfl dX5_drawn_111 ?_
              refine lv_iload hx hb dX5_drawn_114 (lv_at hl 0 rfl) ?_
              refine mo_ald hF hK hM 11 j (by decide) rfl (show j < 4200 by omega) dX5_drawn_116 ?_
              refine lv_bipush (v := 100) hx hb dX5_drawn_117 (by decide) ?_
              refine lv_irem hx hb dX5_drawn_119 (by decide) ?_
              refine lv_bipush (v := 10) hx hb dX5_drawn_120 (by decide) ?_
              refine lv_idiv hx hb dX5_drawn_122 (by decide) ?_
              refine lv_iadd hx hb dX5_drawn_123 ?_
              refine bo_to (v := (it_n (sp_pic1 mm z x y u) (i + 1) 17)) (pic_yes hj31 hv c5 c6) ?_
              refine lv_istore (lv' := [(5, .int (it_n (sp_pic1 mm z x y u) (i + 1) 17)), (7, .int (nI j)), (0, .ref o), (1, .int z), (2, .int x), (3, .int y), (4, .int (nI u)), (6, .int (nI i))]) hx hb dX5_drawn_124 hl (by decide) rfl (fun ls hl => ?_)
              refine lv_iinc (v := (nI (i + 1))) (lv' := [(6, .int (nI (i + 1))), (5, .int (it_n (sp_pic1 mm z x y u) (i + 1) 17)), (7, .int (nI j)), (0, .ref o), (1, .int z), (2, .int x), (3, .int y), (4, .int (nI u))]) hx hb dX5_drawn_126 hl (k := 7) rfl (nI_1 i) (by decide) rfl (fun ls hl => ?_)
              refine lv_goto (tgt := 7) hx hb dX5_drawn_129 (by decide) ?_
              exact ih7 (i + 1) _ _ _ (by show sp_W mm - (i + 1) < sp_W mm - i; omega) ⟨rfl, rfl, lv_sub hl [1, 0, 3, 4, 5, 6, 7] rfl, by omega⟩
      · skip
        refine lv_aload_n hx hb dX5_drawn_38 rfl (lv_at hl 1 rfl) ?_
        refine mo_get hF hK hM 12 (by decide) wd_f_X5_40 rfl dX5_drawn_39 ?_
        refine lv_iload hx hb dX5_drawn_42 (lv_at hl 0 rfl) ?_
        refine mo_ald hF hK hM 12 j (by decide) rfl (show j < 4200 by omega) dX5_drawn_44 ?_
        refine lv_istore (lv' := [(7, .int (mm 12 j)), (0, .ref o), (1, .int z), (2, .int x), (3, .int y), (4, .int (nI u)), (5, .int (it_n (sp_pic1 mm z x y u) i 17)), (6, .int (nI i))]) hx hb dX5_drawn_45 hl (by decide) rfl (fun ls hl => ?_)
        refine lv_goto (tgt := 25) hx hb dX5_drawn_47 (by decide) ?_
        obtain ⟨n', rfl⟩ : ∃ n', n = n' + 1 := ⟨n - 1, by omega⟩
        have hju : ¬ j < u := fun q => c3 (nI_lt q hu)
        exact ih25 (n', mm 12 j) _ _ _ (Nat.lt_succ_self _) ⟨rfl, rfl, lv_sub hl [0, 1, 2, 3, 4, 5, 6, 7] rfl, by rw [← hp2, seek_step hj31 hju], by rcases hI.A hj with ⟨a1, -⟩ | ⟨a1, a2, -⟩; exact Or.inl a1; exact Or.inr ⟨_, by omega, a1, by omega⟩⟩
theorem ke_X5_draws : wl_V RX5 yX5_draws cX5_draws 5 none 4 := ⟨wd_c_X5_draws, wd_i_X5_draws, wd_s_X5_draws, wd_n_X5, by decide, by decide +kernel⟩
set_option maxHeartbeats 4000000 in
set_option maxRecDepth 100000 in
theorem m_X5_draws (l : Launch) (D : va_G) (cI : ClassId) (o : Nat) (a : Nat → Nat) (mm : q_Mem) (hMD : mo_D o a) (t : Nat) (z x y : Int32) (ht : t < 341) (hI : Inv mm) : mo_Cv l yX5_draws cX5_draws 5 none 2 52 D cI o a mm [.int (nI t), .int z, .int x, .int y] (fun m1 => m1 = sp_draws mm t z x y) := by
  refine mo_ofQ (by decide) (Nat.le_of_ble_eq_true rfl) ?_
  intro p e s m args below meth c hx hb hr hF hlk hM hK hS ls hl
  have hA : ∀ q, mo_R o a q → mo_R o a q := fun _ h => h
  have hl : lv_has ls 5 [(0, .ref o), (1, .int (nI t)), (2, .int z), (3, .int x), (4, .int y)] := hl
  have hf : (0 : Nat) ≤ 0 ∧ (0 : Nat) ≤ 0 := ⟨Nat.le_refl 0, Nat.le_refl 0⟩
  refine lv_aload_n hx hb dX5_draws_0 rfl (lv_at hl 0 rfl) ?_
  refine mo_get hF hK hM 14 (by decide) wd_f_X5_46 rfl dX5_draws_1 ?_
  refine lv_iload_n hx hb dX5_draws_4 rfl (lv_at hl 1 rfl) ?_
  refine lv_aload_n hx hb dX5_draws_5 rfl (lv_at hl 0 rfl) ?_
  refine lv_iload_n hx hb dX5_draws_6 rfl (lv_at hl 2 rfl) ?_
  refine lv_iload_n hx hb dX5_draws_7 rfl (lv_at hl 3 rfl) ?_
  refine lv_iload hx hb dX5_draws_8 (lv_at hl 4 rfl) ?_
  refine lv_aload_n hx hb dX5_draws_10 rfl (lv_at hl 0 rfl) ?_
  refine mo_get hF hK hM 10 (by decide) wd_f_X5_72 rfl dX5_draws_11 ?_
  refine bo_to (v := (nI (sp_K mm))) (hI.K) ?_
  refine rc_V (fr := 1) (lo := 25) (As := [.int z, .int x, .int y, .int (nI (sp_K mm))]) (rest := [.int (nI t), .ref (a 14)]) hF (m_X5_drawn l D cI o a mm z x y (sp_K mm) hI (Nat.lt_of_le_of_lt hI.K512 (by decide))) ke_X5_drawn wd_l_X5_119 (by decide) mo_blind (fun U hU hv => ⟨by rw [hU]; exact hM, hK.moved hv⟩) (mo_recv hK hM) rfl hl.1 rfl (Nat.le_of_ble_eq_true rfl) dX5_draws_14 hf (fun r1 hr1 => ?_)
  replace hr1 : r1 = sp_pic mm z x y (sp_K mm) := hr1
  subst hr1
  refine mo_ast (mm := mm) hF hK hM hMD hS hA 14 t (by decide) rfl (by exact ht) dX5_draws_17 (fun H locs hM hS => ?_)
  refine lv_aload_n hx hb dX5_draws_18 rfl (lv_at hl 0 rfl) ?_
  refine mo_get hF hK hM 13 (by decide) wd_f_X5_43 rfl dX5_draws_19 ?_
  refine lv_iload_n hx hb dX5_draws_22 rfl (lv_at hl 1 rfl) ?_
  refine lv_aload_n hx hb dX5_draws_23 rfl (lv_at hl 0 rfl) ?_
  refine mo_get hF hK hM 10 (by decide) wd_f_X5_72 rfl dX5_draws_24 ?_
  refine bo_to (v := (mm 10 0)) (up2_c (by decide)) ?_
  refine lv_iconst (v := 1) hx hb dX5_draws_27 (by decide) ?_
  refine lv_iadd hx hb dX5_draws_28 ?_
  refine mo_ast (mm := (up2 mm 14 t (sp_pic mm z x y (sp_K mm)))) hF hK hM hMD hS hA 13 t (by decide) rfl (by exact ht) dX5_draws_29 (fun H locs hM hS => ?_)
  exact mo_vret hx hb hr hlk hK hM hS (rfl) dX5_draws_30
theorem ke_X5_picture : wl_V RX5 yX5_picture cX5_picture 5 (some .int) 3 := ⟨wd_c_X5_picture, wd_i_X5_picture, wd_s_X5_picture, wd_n_X5, by decide, by decide +kernel⟩
set_option maxHeartbeats 4000000 in
set_option maxRecDepth 100000 in
theorem m_X5_picture (l : Launch) (D : va_G) (cI : ClassId) (o : Nat) (a : Nat → Nat) (mm : q_Mem) (hMD : mo_D o a) (z x y : Int32)  : mo_Ci l yX5_picture cX5_picture 5 (some .int) 2 47 D cI o a mm [.int z, .int x, .int y] (fun r m1 => (r, m1) = sp_ptr mm z x y) := by
  refine mo_ofQ (by decide) (Nat.le_of_ble_eq_true rfl) ?_
  intro p e s m args below meth c hx hb hr hF hlk hM hK hS ls hl
  have hA : ∀ q, mo_R o a q → mo_R o a q := fun _ h => h
  have hl : lv_has ls 5 [(0, .ref o), (1, .int z), (2, .int x), (3, .int y)] := hl
  have hf : (0 : Nat) ≤ 0 ∧ (0 : Nat) ≤ 0 := ⟨Nat.le_refl 0, Nat.le_refl 0⟩
  refine lv_aload_n hx hb dX5_picture_0 rfl (lv_at hl 0 rfl) ?_
  refine lv_iload_n hx hb dX5_picture_1 rfl (lv_at hl 1 rfl) ?_
  refine lv_iload_n hx hb dX5_picture_2 rfl (lv_at hl 2 rfl) ?_
  refine lv_iload_n hx hb dX5_picture_3 rfl (lv_at hl 3 rfl) ?_
  refine mo_iV (fr := 1) (lo := 22) (As := [.int z, .int x, .int y]) (rest := []) hF (m_X5_tileAt l D cI o a mm hMD z x y) ke_X5_tileAt wd_l_X5_123 (by decide) hK hM hS hA rfl hl.1 rfl (Nat.le_of_ble_eq_true rfl) dX5_picture_4 hf (fun r1 mm2 H locs hr1 hM hS _ _ => ?_)
  by_cases cP : sp_tl z x y
  · skip
    rw [if_pos cP] at hr1
    obtain ⟨hr1, hr3⟩ := hr1
    subst hr1
    subst hr3
    have ht := sp_t_lt cP
    refine lv_istore (lv' := [(4, .int (nI (sp_t z x y))), (0, .ref o), (1, .int z), (2, .int x), (3, .int y)]) hx hb dX5_picture_7 hl (by decide) rfl (fun ls hl => ?_)
    refine lv_iload hx hb dX5_picture_9 (lv_at hl 0 rfl) ?_
    refine lv_iconst (v := (-1)) hx hb dX5_picture_11 (by decide) ?_
    refine lv_icmp_ne (tgt := 17) hx hb dX5_picture_12 (by decide) (fun c1 => ?_) (fun c1 => ?_)
    · skip
      refine lv_aload_n hx hb dX5_picture_17 rfl (lv_at hl 1 rfl) ?_
      refine mo_get hF hK hM 13 (by decide) wd_f_X5_43 rfl dX5_picture_18 ?_
      refine lv_iload hx hb dX5_picture_21 (lv_at hl 0 rfl) ?_
      refine mo_ald hF hK hM 13 (sp_t z x y) (by decide) rfl (by exact ht) dX5_picture_23 ?_
      refine bo_to (v := (mm 13 (sp_t z x y))) (up2_c (by decide)) ?_
      refine lv_if_ne (tgt := 35) hx hb dX5_picture_24 (by decide) (fun c2 => ?_) (fun c2 => ?_)
      · skip
        refine lv_aload_n hx hb dX5_picture_35 rfl (lv_at hl 1 rfl) ?_
        refine mo_get hF hK hM 14 (by decide) wd_f_X5_46 rfl dX5_picture_36 ?_
        refine lv_iload hx hb dX5_picture_39 (lv_at hl 0 rfl) ?_
        refine mo_ald hF hK hM 14 (sp_t z x y) (by decide) rfl (by exact ht) dX5_picture_41 ?_
        refine bo_to (v := (mm 14 (sp_t z x y))) (up2_c (by decide)) ?_
        exact mo_iret hx hb hr hlk hK hM hS (by first | (rw [sp_ptr, if_pos cP, if_neg c2]; done) | (rw [sp_ptr, if_pos cP, if_pos c2, up2_twice]; done)) dX5_picture_42
      · skip
        refine lv_aload_n hx hb dX5_picture_27 rfl (lv_at hl 1 rfl) ?_
        refine lv_iconst (v := 2) hx hb dX5_picture_28 (by decide) ?_
        refine mo_iV (fr := 0) (lo := 0) (As := [.int 2]) (rest := []) hF (m_X5_fails l D cI o a (up2 mm 19 0 0) hMD 2) ke_X5_fails wd_l_X5_87 (by decide) hK hM hS hA rfl hl.1 rfl (Nat.le_of_ble_eq_true rfl) dX5_picture_29 hf (fun r3 mm4 H locs hr3 hM hS _ _ => ?_)
        obtain ⟨hr3, hmm4⟩ := hr3
        subst hmm4
        replace hr3 : r3 = 0 := hr3
        subst hr3
        refine lv_goto (tgt := 42) hx hb dX5_picture_32 (by decide) ?_
        exact mo_iret hx hb hr hlk hK hM hS (by first | (rw [sp_ptr, if_pos cP, if_neg c2]; done) | (rw [sp_ptr, if_pos cP, if_pos c2, up2_twice]; done)) dX5_picture_42
    · skip
      exact absurd c1 (nI_nm1 (Nat.lt_trans ht (by decide)))
  · skip
    rw [if_neg cP] at hr1
    obtain ⟨hr1, hr3⟩ := hr1
    subst hr1
    subst hr3
    refine lv_istore (lv' := [(4, .int (-1)), (0, .ref o), (1, .int z), (2, .int x), (3, .int y)]) hx hb dX5_picture_7 hl (by decide) rfl (fun ls hl => ?_)
    refine lv_iload hx hb dX5_picture_9 (lv_at hl 0 rfl) ?_
    refine lv_iconst (v := (-1)) hx hb dX5_picture_11 (by decide) ?_
    refine lv_icmp_ne (tgt := 17) hx hb dX5_picture_12 (by decide) (fun c1 => ?_) (fun c1 => ?_)
    · skip
      exact absurd rfl c1
    · skip
      refine lv_iconst (v := 0) hx hb dX5_picture_15 (by decide) ?_
      exact mo_iret hx hb hr hlk hK hM hS (by rw [sp_ptr, if_neg cP]) dX5_picture_16
theorem ke_X5_tileStamp : wl_V RX5 yX5_tileStamp cX5_tileStamp 5 (some .int) 3 := ⟨wd_c_X5_tileStamp, wd_i_X5_tileStamp, wd_s_X5_tileStamp, wd_n_X5, by decide, by decide +kernel⟩
set_option maxHeartbeats 4000000 in
set_option maxRecDepth 100000 in
theorem m_X5_tileStamp (l : Launch) (D : va_G) (cI : ClassId) (o : Nat) (a : Nat → Nat) (mm : q_Mem) (hMD : mo_D o a) (z x y : Int32)  : mo_Ci l yX5_tileStamp cX5_tileStamp 5 (some .int) 2 47 D cI o a mm [.int z, .int x, .int y] (fun r m1 => (r, m1) = sp_tst mm z x y) := by
  refine mo_ofQ (by decide) (Nat.le_of_ble_eq_true rfl) ?_
  intro p e s m args below meth c hx hb hr hF hlk hM hK hS ls hl
  have hA : ∀ q, mo_R o a q → mo_R o a q := fun _ h => h
  have hl : lv_has ls 5 [(0, .ref o), (1, .int z), (2, .int x), (3, .int y)] := hl
  have hf : (0 : Nat) ≤ 0 ∧ (0 : Nat) ≤ 0 := ⟨Nat.le_refl 0, Nat.le_refl 0⟩
  refine lv_aload_n hx hb dX5_tileStamp_0 rfl (lv_at hl 0 rfl) ?_
  refine lv_iload_n hx hb dX5_tileStamp_1 rfl (lv_at hl 1 rfl) ?_
  refine lv_iload_n hx hb dX5_tileStamp_2 rfl (lv_at hl 2 rfl) ?_
  refine lv_iload_n hx hb dX5_tileStamp_3 rfl (lv_at hl 3 rfl) ?_
  refine mo_iV (fr := 1) (lo := 22) (As := [.int z, .int x, .int y]) (rest := []) hF (m_X5_tileAt l D cI o a mm hMD z x y) ke_X5_tileAt wd_l_X5_123 (by decide) hK hM hS hA rfl hl.1 rfl (Nat.le_of_ble_eq_true rfl) dX5_tileStamp_4 hf (fun r1 mm2 H locs hr1 hM hS _ _ => ?_)
  by_cases cP : sp_tl z x y
  · skip
    rw [if_pos cP] at hr1
    obtain ⟨hr1, hr3⟩ := hr1
    subst hr1
    subst hr3
    have ht := sp_t_lt cP
    refine lv_istore (lv' := [(4, .int (nI (sp_t z x y))), (0, .ref o), (1, .int z), (2, .int x), (3, .int y)]) hx hb dX5_tileStamp_7 hl (by decide) rfl (fun ls hl => ?_)
    refine lv_iload hx hb dX5_tileStamp_9 (lv_at hl 0 rfl) ?_
    refine lv_iconst (v := (-1)) hx hb dX5_tileStamp_11 (by decide) ?_
    refine lv_icmp_ne (tgt := 19) hx hb dX5_tileStamp_12 (by decide) (fun c1 => ?_) (fun c1 => ?_)
    · skip
      refine lv_aload_n hx hb dX5_tileStamp_19 rfl (lv_at hl 1 rfl) ?_
      refine mo_get hF hK hM 13 (by decide) wd_f_X5_43 rfl dX5_tileStamp_20 ?_
      refine lv_iload hx hb dX5_tileStamp_23 (lv_at hl 0 rfl) ?_
      refine mo_ald hF hK hM 13 (sp_t z x y) (by decide) rfl (by exact ht) dX5_tileStamp_25 ?_
      refine bo_to (v := (mm 13 (sp_t z x y))) (up2_c (by decide)) ?_
      refine lv_iconst (v := 1) hx hb dX5_tileStamp_26 (by decide) ?_
      refine lv_isub hx hb dX5_tileStamp_27 ?_
      exact mo_iret hx hb hr hlk hK hM hS (by first | (rw [sp_tst, if_pos cP]; done) | (rw [sp_tst, if_neg cP]; done)) dX5_tileStamp_28
    · skip
      exact absurd c1 (nI_nm1 (Nat.lt_trans ht (by decide)))
  · skip
    rw [if_neg cP] at hr1
    obtain ⟨hr1, hr3⟩ := hr1
    subst hr1
    subst hr3
    refine lv_istore (lv' := [(4, .int (-1)), (0, .ref o), (1, .int z), (2, .int x), (3, .int y)]) hx hb dX5_tileStamp_7 hl (by decide) rfl (fun ls hl => ?_)
    refine lv_iload hx hb dX5_tileStamp_9 (lv_at hl 0 rfl) ?_
    refine lv_iconst (v := (-1)) hx hb dX5_tileStamp_11 (by decide) ?_
    refine lv_icmp_ne (tgt := 19) hx hb dX5_tileStamp_12 (by decide) (fun c1 => ?_) (fun c1 => ?_)
    · skip
      exact absurd rfl c1
    · skip
      refine lv_iconst (v := 0) hx hb dX5_tileStamp_15 (by decide) ?_
      refine lv_goto (tgt := 28) hx hb dX5_tileStamp_16 (by decide) ?_
      exact mo_iret hx hb hr hlk hK hM hS (by first | (rw [sp_tst, if_pos cP]; done) | (rw [sp_tst, if_neg cP]; done)) dX5_tileStamp_28
theorem ke_X5_pictureAnew : wl_V RX5 yX5_pictureAnew cX5_pictureAnew 5 (some .int) 3 := ⟨wd_c_X5_pictureAnew, wd_i_X5_pictureAnew, wd_s_X5_pictureAnew, wd_n_X5, by decide, by decide +kernel⟩
set_option maxHeartbeats 4000000 in
set_option maxRecDepth 100000 in
theorem m_X5_pictureAnew (l : Launch) (D : va_G) (cI : ClassId) (o : Nat) (a : Nat → Nat) (mm : q_Mem) (hMD : mo_D o a) (z x y : Int32) (hI : Inv mm) : mo_Ci l yX5_pictureAnew cX5_pictureAnew 5 (some .int) 2 52 D cI o a mm [.int z, .int x, .int y] (fun r m1 => (r, m1) = sp_anew mm z x y) := by
  refine mo_ofQ (by decide) (Nat.le_of_ble_eq_true rfl) ?_
  intro p e s m args below meth c hx hb hr hF hlk hM hK hS ls hl
  have hA : ∀ q, mo_R o a q → mo_R o a q := fun _ h => h
  have hl : lv_has ls 5 [(0, .ref o), (1, .int z), (2, .int x), (3, .int y)] := hl
  have hf : (0 : Nat) ≤ 0 ∧ (0 : Nat) ≤ 0 := ⟨Nat.le_refl 0, Nat.le_refl 0⟩
  refine lv_aload_n hx hb dX5_pictureAnew_0 rfl (lv_at hl 0 rfl) ?_
  refine lv_iload_n hx hb dX5_pictureAnew_1 rfl (lv_at hl 1 rfl) ?_
  refine lv_iload_n hx hb dX5_pictureAnew_2 rfl (lv_at hl 2 rfl) ?_
  refine lv_iload_n hx hb dX5_pictureAnew_3 rfl (lv_at hl 3 rfl) ?_
  refine mo_iV (fr := 1) (lo := 22) (As := [.int z, .int x, .int y]) (rest := []) hF (m_X5_tileAt l D cI o a mm hMD z x y) ke_X5_tileAt wd_l_X5_123 (by decide) hK hM hS hA rfl hl.1 rfl (Nat.le_of_ble_eq_true rfl) dX5_pictureAnew_4 hf (fun r1 mm2 H locs hr1 hM hS _ _ => ?_)
  by_cases cP : sp_tl z x y
  · skip
    rw [if_pos cP] at hr1
    obtain ⟨hr1, hr3⟩ := hr1
    subst hr1
    subst hr3
    have ht := sp_t_lt cP
    refine lv_istore (lv' := [(4, .int (nI (sp_t z x y))), (0, .ref o), (1, .int z), (2, .int x), (3, .int y)]) hx hb dX5_pictureAnew_7 hl (by decide) rfl (fun ls hl => ?_)
    refine lv_iload hx hb dX5_pictureAnew_9 (lv_at hl 0 rfl) ?_
    refine lv_iconst (v := (-1)) hx hb dX5_pictureAnew_11 (by decide) ?_
    refine lv_icmp_ne (tgt := 17) hx hb dX5_pictureAnew_12 (by decide) (fun c1 => ?_) (fun c1 => ?_)
    · skip
      refine lv_aload_n hx hb dX5_pictureAnew_17 rfl (lv_at hl 1 rfl) ?_
      refine mo_get hF hK hM 13 (by decide) wd_f_X5_43 rfl dX5_pictureAnew_18 ?_
      refine lv_iload hx hb dX5_pictureAnew_21 (lv_at hl 0 rfl) ?_
      refine mo_ald hF hK hM 13 (sp_t z x y) (by decide) rfl (by exact ht) dX5_pictureAnew_23 ?_
      refine bo_to (v := (mm 13 (sp_t z x y))) (up2_c (by decide)) ?_
      refine lv_if_ne (tgt := 35) hx hb dX5_pictureAnew_24 (by decide) (fun c2 => ?_) (fun c2 => ?_)
      · skip
        obtain ⟨n, hn, hn1⟩ := hI.S ht
        have hKK := hI.K512
        have hn0 : 0 < n := Nat.pos_of_ne_zero (fun q => c2 (by rw [hn1, q]; rfl))
        refine lv_aload_n hx hb dX5_pictureAnew_35 rfl (lv_at hl 1 rfl) ?_
        refine lv_iload_n hx hb dX5_pictureAnew_36 rfl (lv_at hl 2 rfl) ?_
        refine lv_iload_n hx hb dX5_pictureAnew_37 rfl (lv_at hl 3 rfl) ?_
        refine lv_iload_n hx hb dX5_pictureAnew_38 rfl (lv_at hl 4 rfl) ?_
        refine lv_aload_n hx hb dX5_pictureAnew_39 rfl (lv_at hl 1 rfl) ?_
        refine mo_get hF hK hM 13 (by decide) wd_f_X5_43 rfl dX5_pictureAnew_40 ?_
        refine lv_iload hx hb dX5_pictureAnew_43 (lv_at hl 0 rfl) ?_
        refine mo_ald hF hK hM 13 (sp_t z x y) (by decide) rfl (by exact ht) dX5_pictureAnew_45 ?_
        refine bo_to (v := (mm 13 (sp_t z x y))) (up2_c (by decide)) ?_
        refine bo_to (v := (nI n)) (hn1) ?_
        refine lv_iconst (v := 1) hx hb dX5_pictureAnew_46 (by decide) ?_
        refine lv_isub hx hb dX5_pictureAnew_47 ?_
        refine bo_to (v := (nI (n - 1))) (nI_m1 hn0) ?_
        refine rc_V (fr := 1) (lo := 25) (As := [.int z, .int x, .int y, .int (nI (n - 1))]) (rest := []) hF (m_X5_drawn l D cI o a (up2 mm 19 0 0) z x y (n - 1) hI (by omega)) ke_X5_drawn wd_l_X5_119 (by decide) mo_blind (fun U hU hv => ⟨by rw [hU]; exact hM, hK.moved hv⟩) (mo_recv hK hM) rfl hl.1 rfl (Nat.le_of_ble_eq_true rfl) dX5_pictureAnew_48 hf (fun r3 hr3 => ?_)
        replace hr3 : r3 = sp_pic mm z x y (n - 1) := hr3
        subst hr3
        exact mo_iret hx hb hr hlk hK hM hS (by first | (rw [sp_anew, if_pos cP, if_neg c2, hn1, nt_c (by omega)]; done) | (rw [sp_anew, if_pos cP, if_pos c2, up2_twice]; done)) dX5_pictureAnew_51
      · skip
        refine lv_aload_n hx hb dX5_pictureAnew_27 rfl (lv_at hl 1 rfl) ?_
        refine lv_iconst (v := 2) hx hb dX5_pictureAnew_28 (by decide) ?_
        refine mo_iV (fr := 0) (lo := 0) (As := [.int 2]) (rest := []) hF (m_X5_fails l D cI o a (up2 mm 19 0 0) hMD 2) ke_X5_fails wd_l_X5_87 (by decide) hK hM hS hA rfl hl.1 rfl (Nat.le_of_ble_eq_true rfl) dX5_pictureAnew_29 hf (fun r4 mm5 H locs hr4 hM hS _ _ => ?_)
        obtain ⟨hr4, hmm5⟩ := hr4
        subst hmm5
        replace hr4 : r4 = 0 := hr4
        subst hr4
        refine lv_goto (tgt := 51) hx hb dX5_pictureAnew_32 (by decide) ?_
        exact mo_iret hx hb hr hlk hK hM hS (by first | (rw [sp_anew, if_pos cP, if_neg c2, hn1, nt_c (by omega)]; done) | (rw [sp_anew, if_pos cP, if_pos c2, up2_twice]; done)) dX5_pictureAnew_51
    · skip
      exact absurd c1 (nI_nm1 (Nat.lt_trans ht (by decide)))
  · skip
    rw [if_neg cP] at hr1
    obtain ⟨hr1, hr3⟩ := hr1
    subst hr1
    subst hr3
    refine lv_istore (lv' := [(4, .int (-1)), (0, .ref o), (1, .int z), (2, .int x), (3, .int y)]) hx hb dX5_pictureAnew_7 hl (by decide) rfl (fun ls hl => ?_)
    refine lv_iload hx hb dX5_pictureAnew_9 (lv_at hl 0 rfl) ?_
    refine lv_iconst (v := (-1)) hx hb dX5_pictureAnew_11 (by decide) ?_
    refine lv_icmp_ne (tgt := 17) hx hb dX5_pictureAnew_12 (by decide) (fun c1 => ?_) (fun c1 => ?_)
    · skip
      exact absurd rfl c1
    · skip
      refine lv_iconst (v := 0) hx hb dX5_pictureAnew_15 (by decide) ?_
      exact mo_iret hx hb hr hlk hK hM hS (by rw [sp_anew, if_neg cP]) dX5_pictureAnew_16
theorem ke_X5_draw : wl_V RX5 yX5_draw cX5_draw 7 (some .int) 3 := ⟨wd_c_X5_draw, wd_i_X5_draw, wd_s_X5_draw, wd_n_X5, by decide, by decide +kernel⟩
set_option maxHeartbeats 4000000 in
set_option maxRecDepth 100000 in
theorem m_X5_draw (l : Launch) (D : va_G) (cI : ClassId) (o : Nat) (a : Nat → Nat) (mm : q_Mem) (hMD : mo_D o a) (z x y : Int32) (hI : Inv mm) : mo_Ci l yX5_draw cX5_draw 7 (some .int) 3 76 D cI o a mm [.int z, .int x, .int y] (fun r m1 => (r, m1) = sp_draw mm z x y) := by
  refine mo_ofQ (by decide) (Nat.le_of_ble_eq_true rfl) ?_
  intro p e s m args below meth c hx hb hr hF hlk hM hK hS ls hl
  have hA : ∀ q, mo_R o a q → mo_R o a q := fun _ h => h
  have hl : lv_has ls 7 [(0, .ref o), (1, .int z), (2, .int x), (3, .int y)] := hl
  have hf : (0 : Nat) ≤ 0 ∧ (0 : Nat) ≤ 0 := ⟨Nat.le_refl 0, Nat.le_refl 0⟩
  refine lv_aload_n hx hb dX5_draw_0 rfl (lv_at hl 0 rfl) ?_
  refine lv_iload_n hx hb dX5_draw_1 rfl (lv_at hl 1 rfl) ?_
  refine lv_iload_n hx hb dX5_draw_2 rfl (lv_at hl 2 rfl) ?_
  refine lv_iload_n hx hb dX5_draw_3 rfl (lv_at hl 3 rfl) ?_
  refine mo_iV (fr := 1) (lo := 22) (As := [.int z, .int x, .int y]) (rest := []) hF (m_X5_tileAt l D cI o a mm hMD z x y) ke_X5_tileAt wd_l_X5_123 (by decide) hK hM hS hA rfl hl.1 rfl (Nat.le_of_ble_eq_true rfl) dX5_draw_4 hf (fun r1 mm2 H locs hr1 hM hS _ _ => ?_)
  by_cases cP : sp_tl z x y
  · skip
    rw [if_pos cP] at hr1
    obtain ⟨hr1, hr3⟩ := hr1
    subst hr1
    subst hr3
    have ht := sp_t_lt cP
    refine lv_istore (lv' := [(4, .int (nI (sp_t z x y))), (0, .ref o), (1, .int z), (2, .int x), (3, .int y)]) hx hb dX5_draw_7 hl (by decide) rfl (fun ls hl => ?_)
    refine lv_iload hx hb dX5_draw_9 (lv_at hl 0 rfl) ?_
    refine lv_iconst (v := (-1)) hx hb dX5_draw_11 (by decide) ?_
    refine lv_icmp_ne (tgt := 17) hx hb dX5_draw_12 (by decide) (fun c1 => ?_) (fun c1 => ?_)
    · skip
      refine lv_aload_n hx hb dX5_draw_17 rfl (lv_at hl 1 rfl) ?_
      refine lv_iload hx hb dX5_draw_18 (lv_at hl 0 rfl) ?_
      refine lv_iload_n hx hb dX5_draw_20 rfl (lv_at hl 2 rfl) ?_
      refine lv_iload_n hx hb dX5_draw_21 rfl (lv_at hl 3 rfl) ?_
      refine lv_iload_n hx hb dX5_draw_22 rfl (lv_at hl 4 rfl) ?_
      refine mo_vV (fr := 2) (lo := 52) (As := [.int (nI (sp_t z x y)), .int z, .int x, .int y]) (rest := []) hF (m_X5_draws l D cI o a (up2 mm 19 0 0) hMD (sp_t z x y) z x y ht hI) ke_X5_draws wd_l_X5_127 (by decide) hK hM hS hA rfl hl.1 rfl (Nat.le_of_ble_eq_true rfl) dX5_draw_23 hf (fun mm4 H locs hmm4 hM hS => ?_)
      subst hmm4
      refine lv_iconst (v := 0) hx hb dX5_draw_26 (by decide) ?_
      refine lv_istore (lv' := [(5, .int 0), (4, .int (nI (sp_t z x y))), (0, .ref o), (1, .int z), (2, .int x), (3, .int y)]) hx hb dX5_draw_27 hl (by decide) rfl (fun ls hl => ?_)
      refine lv_iconst (v := 0) hx hb dX5_draw_29 (by decide) ?_
      refine lv_istore (lv' := [(6, .int 0), (5, .int 0), (4, .int (nI (sp_t z x y))), (0, .ref o), (1, .int z), (2, .int x), (3, .int y)]) hx hb dX5_draw_30 hl (by decide) rfl (fun ls hl => ?_)
      refine bo_loop (σ := Nat) (μ := fun (i : Nat) => sp_W mm - i) (I := fun (i : Nat) (H : Heap) (locs : List Loc) (ls : Array Slot) => mo_H D cI o a (sp_draws (up2 mm 19 0 0) (sp_t z x y) z x y) H ∧ va_S (mo_R o a) s.heap H locs ∧ lv_has ls 7 [(5, .int (it_n (sp_cnt1 (up2 mm 19 0 0) z x y) i 0)), (6, .int (nI i)), (0, .ref o), (1, .int z), (2, .int x), (3, .int y), (4, .int (nI (sp_t z x y)))] ∧ (i ≤ sp_W mm)) (0) ⟨hM, hS, lv_sub hl [1, 0, 3, 4, 5, 6, 2] rfl, Nat.zero_le _⟩ ?_
      intro x32 H locs ls hI32 ih32
      obtain ⟨i, ex32⟩ : ∃ z, z = x32 := ⟨_, rfl⟩
      subst ex32
      obtain ⟨hM, hS, hl, hp⟩ := hI32
      refine lv_iload hx hb dX5_draw_32 (lv_at hl 1 rfl) ?_
      refine lv_aload_n hx hb dX5_draw_34 rfl (lv_at hl 2 rfl) ?_
      refine mo_get hF hK hM 1 (by decide) wd_f_X5_69 rfl dX5_draw_35 ?_
      refine bo_to (v := (mm 1 0)) (rfl) ?_
      refine lv_icmp_ge (tgt := 88) hx hb dX5_draw_38 (by decide) (fun c2 => ?_) (fun c2 => ?_)
      · skip
        have hi := W_end hI hp c2
        refine lv_iload hx hb dX5_draw_88 (lv_at hl 0 rfl) ?_
        exact mo_iret hx hb hr hlk hK hM hS (by rw [sp_draw, if_pos cP, hi]; rfl) dX5_draw_90
      · skip
        have hi := W_in hI hp c2
        have h40 := hI.W40
        have hL := hI.L hi
        have hL4 := hI.L4200 hi
        refine lv_iload hx hb dX5_draw_41 (lv_at hl 0 rfl) ?_
        refine bo_cut (ls := ls) (tgt := 79) (E := if sp_sh (mm 11 (sp_L mm i)) z ∧ sp_isin mm i z x y then 1 else 0) (rest := [.int (it_n (sp_cnt1 (up2 mm 19 0 0) z x y) i 0)]) (fun vs evs => ?_) (fun J79 => ?_)
        · skip
          refine lv_iadd hx hb dX5_draw_79 ?_
          refine bo_to (v := (it_n (sp_cnt1 (up2 mm 19 0 0) z x y) (i + 1) 0)) (by rw [evs]; rfl) ?_
          refine lv_istore (lv' := [(5, .int (it_n (sp_cnt1 (up2 mm 19 0 0) z x y) (i + 1) 0)), (6, .int (nI i)), (0, .ref o), (1, .int z), (2, .int x), (3, .int y), (4, .int (nI (sp_t z x y)))]) hx hb dX5_draw_80 hl (by decide) rfl (fun ls hl => ?_)
          refine lv_iinc (v := (nI (i + 1))) (lv' := [(6, .int (nI (i + 1))), (5, .int (it_n (sp_cnt1 (up2 mm 19 0 0) z x y) (i + 1) 0)), (0, .ref o), (1, .int z), (2, .int x), (3, .int y), (4, .int (nI (sp_t z x y)))]) hx hb dX5_draw_82 hl (k := 1) rfl (nI_1 i) (by decide) rfl (fun ls hl => ?_)
          refine lv_goto (tgt := 32) hx hb dX5_draw_85 (by decide) ?_
          exact ih32 (i + 1) _ _ _ (by show sp_W mm - (i + 1) < sp_W mm - i; omega) ⟨hM, hS, lv_sub hl [1, 0, 2, 3, 4, 5, 6] rfl, by omega⟩
        · skip
          refine lv_aload_n hx hb dX5_draw_43 rfl (lv_at hl 2 rfl) ?_
          refine mo_get hF hK hM 11 (by decide) wd_f_X5_37 rfl dX5_draw_44 ?_
          refine lv_aload_n hx hb dX5_draw_47 rfl (lv_at hl 2 rfl) ?_
          refine mo_get hF hK hM 8 (by decide) wd_f_X5_31 rfl dX5_draw_48 ?_
          refine lv_iload hx hb dX5_draw_51 (lv_at hl 1 rfl) ?_
          refine mo_ald hF hK hM 8 i (by decide) rfl (show i < 40 by omega) dX5_draw_53 ?_
          refine bo_to (v := (nI (sp_L mm i))) (hL) ?_
          refine mo_ald hF hK hM 11 (sp_L mm i) (by decide) rfl (by exact hL4) dX5_draw_54 ?_
          refine bo_to (v := (mm 11 (sp_L mm i))) (rfl) ?_
          refine lv_iload_n hx hb dX5_draw_55 rfl (lv_at hl 3 rfl) ?_
          refine rc_S (fr := 0) (lo := 0) (As := [.int (mm 11 (sp_L mm i)), .int z]) (rest := [.int (it_n (sp_cnt1 (up2 mm 19 0 0) z x y) i 0)]) hF (m_X5_isShown l (mm 11 (sp_L mm i)) z) ke_X5_isShown wd_l_X5_112 (by decide) bl_true (fun _ _ _ => trivial) rfl hl.1 rfl (Nat.le_of_ble_eq_true rfl) dX5_draw_56 hf (fun r6 hr6 => ?_)
          refine bo_eq (tgt := 78) hr6 hx hb dX5_draw_59 (by decide) (fun c3 => ?_) (fun c3 => ?_)
          · skip
            refine lv_iconst (v := 0) hx hb dX5_draw_78 (by decide) ?_
            exact J79 _ (by first | exact bo_y c3 c4 | exact bo_n1 c3 | exact bo_n2 c4)
          · skip
            refine lv_aload_n hx hb dX5_draw_62 rfl (lv_at hl 2 rfl) ?_
            refine lv_iload hx hb dX5_draw_63 (lv_at hl 1 rfl) ?_
            refine lv_iload_n hx hb dX5_draw_65 rfl (lv_at hl 3 rfl) ?_
            refine lv_iload_n hx hb dX5_draw_66 rfl (lv_at hl 4 rfl) ?_
            refine lv_iload_n hx hb dX5_draw_67 rfl (lv_at hl 5 rfl) ?_
            refine rc_V (fr := 0) (lo := 0) (As := [.int (nI i), .int z, .int x, .int y]) (rest := [.int (it_n (sp_cnt1 (up2 mm 19 0 0) z x y) i 0)]) hF (m_X5_isIn l D cI o a (sp_draws (up2 mm 19 0 0) (sp_t z x y) z x y) i z x y (by omega)) ke_X5_isIn wd_l_X5_115 (by decide) mo_blind (fun U hU hv => ⟨by rw [hU]; exact hM, hK.moved hv⟩) (mo_recv hK hM) rfl hl.1 rfl (Nat.le_of_ble_eq_true rfl) dX5_draw_68 hf (fun r7 hr7 => ?_)
            refine bo_eq (tgt := 78) hr7 hx hb dX5_draw_71 (by decide) (fun c4 => ?_) (fun c4 => ?_)
            · skip
              refine lv_iconst (v := 0) hx hb dX5_draw_78 (by decide) ?_
              exact J79 _ (by first | exact bo_y c3 c4 | exact bo_n1 c3 | exact bo_n2 c4)
            · skip
              refine lv_iconst (v := 1) hx hb dX5_draw_74 (by decide) ?_
              refine lv_goto (tgt := 79) hx hb dX5_draw_75 (by decide) ?_
              exact J79 _ (by first | exact bo_y c3 c4 | exact bo_n1 c3 | exact bo_n2 c4)
    · skip
      exact absurd c1 (nI_nm1 (Nat.lt_trans ht (by decide)))
  · skip
    rw [if_neg cP] at hr1
    obtain ⟨hr1, hr3⟩ := hr1
    subst hr1
    subst hr3
    refine lv_istore (lv' := [(4, .int (-1)), (0, .ref o), (1, .int z), (2, .int x), (3, .int y)]) hx hb dX5_draw_7 hl (by decide) rfl (fun ls hl => ?_)
    refine lv_iload hx hb dX5_draw_9 (lv_at hl 0 rfl) ?_
    refine lv_iconst (v := (-1)) hx hb dX5_draw_11 (by decide) ?_
    refine lv_icmp_ne (tgt := 17) hx hb dX5_draw_12 (by decide) (fun c1 => ?_) (fun c1 => ?_)
    · skip
      exact absurd rfl c1
    · skip
      refine lv_iconst (v := 0) hx hb dX5_draw_15 (by decide) ?_
      exact mo_iret hx hb hr hlk hK hM hS (by rw [sp_draw, if_neg cP]) dX5_draw_16
