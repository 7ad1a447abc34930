theorem dL_addWay_0 : decode cL_addWay 0 = .ok (.aload 6, 2) := by decide +kernel
theorem dL_addWay_2 : decode cL_addWay 2 = .ok (.iconst 0, 1) := by decide +kernel
theorem dL_addWay_3 : decode cL_addWay 3 = .ok (.aload_n 0, 1) := by decide +kernel
theorem dL_addWay_4 : decode cL_addWay 4 = .ok (.iload_n 1, 1) := by decide +kernel
theorem dL_addWay_5 : decode cL_addWay 5 = .ok (.iload_n 2, 1) := by decide +kernel
theorem dL_addWay_6 : decode cL_addWay 6 = .ok (.iload_n 3, 1) := by decide +kernel
theorem dL_addWay_7 : decode cL_addWay 7 = .ok (.iload 4, 2) := by decide +kernel
theorem dL_addWay_9 : decode cL_addWay 9 = .ok (.iload 5, 2) := by decide +kernel
theorem dL_addWay_11 : decode cL_addWay 11 = .ok (.invokevirtual 7, 3) := by decide +kernel
theorem dL_addWay_14 : decode cL_addWay 14 = .ok (.i2l, 1) := by decide +kernel
theorem dL_addWay_15 : decode cL_addWay 15 = .ok (.lastore, 1) := by decide +kernel
theorem dL_addWay_16 : decode cL_addWay 16 = .ok (.goto 15, 3) := by decide +kernel
theorem dL_addWay_19 : decode cL_addWay 19 = .ok (.astore 7, 2) := by decide +kernel
theorem dL_addWay_21 : decode cL_addWay 21 = .ok (.iconst 1, 1) := by decide +kernel
theorem dL_addWay_22 : decode cL_addWay 22 = .ok (.ireturn, 1) := by decide +kernel
theorem dL_addWay_23 : decode cL_addWay 23 = .ok (.astore 7, 2) := by decide +kernel
theorem dL_addWay_25 : decode cL_addWay 25 = .ok (.iconst 2, 1) := by decide +kernel
theorem dL_addWay_26 : decode cL_addWay 26 = .ok (.ireturn, 1) := by decide +kernel
theorem dL_addWay_27 : decode cL_addWay 27 = .ok (.astore 7, 2) := by decide +kernel
theorem dL_addWay_29 : decode cL_addWay 29 = .ok (.iconst 3, 1) := by decide +kernel
theorem dL_addWay_30 : decode cL_addWay 30 = .ok (.ireturn, 1) := by decide +kernel
theorem dL_addWay_31 : decode cL_addWay 31 = .ok (.iconst 0, 1) := by decide +kernel
theorem dL_addWay_32 : decode cL_addWay 32 = .ok (.ireturn, 1) := by decide +kernel
theorem dL_carAt_0 : decode cL_carAt 0 = .ok (.aload_n 2, 1) := by decide +kernel
theorem dL_carAt_1 : decode cL_carAt 1 = .ok (.iconst 0, 1) := by decide +kernel
theorem dL_carAt_2 : decode cL_carAt 2 = .ok (.aload_n 0, 1) := by decide +kernel
theorem dL_carAt_3 : decode cL_carAt 3 = .ok (.iload_n 1, 1) := by decide +kernel
theorem dL_carAt_4 : decode cL_carAt 4 = .ok (.invokevirtual 88, 3) := by decide +kernel
theorem dL_carAt_7 : decode cL_carAt 7 = .ok (.i2l, 1) := by decide +kernel
theorem dL_carAt_8 : decode cL_carAt 8 = .ok (.lastore, 1) := by decide +kernel
theorem dL_carAt_9 : decode cL_carAt 9 = .ok (.goto 6, 3) := by decide +kernel
theorem dL_carAt_12 : decode cL_carAt 12 = .ok (.astore_n 3, 1) := by decide +kernel
theorem dL_carAt_13 : decode cL_carAt 13 = .ok (.iconst 1, 1) := by decide +kernel
theorem dL_carAt_14 : decode cL_carAt 14 = .ok (.ireturn, 1) := by decide +kernel
theorem dL_carAt_15 : decode cL_carAt 15 = .ok (.iconst 0, 1) := by decide +kernel
theorem dL_carAt_16 : decode cL_carAt 16 = .ok (.ireturn, 1) := by decide +kernel
theorem dL_dear_0 : decode cL_dear 0 = .ok (.aload_n 2, 1) := by decide +kernel
theorem dL_dear_1 : decode cL_dear 1 = .ok (.iconst 0, 1) := by decide +kernel
theorem dL_dear_2 : decode cL_dear 2 = .ok (.aload_n 0, 1) := by decide +kernel
theorem dL_dear_3 : decode cL_dear 3 = .ok (.iload_n 1, 1) := by decide +kernel
theorem dL_dear_4 : decode cL_dear 4 = .ok (.invokevirtual 79, 3) := by decide +kernel
theorem dL_dear_7 : decode cL_dear 7 = .ok (.i2l, 1) := by decide +kernel
theorem dL_dear_8 : decode cL_dear 8 = .ok (.lastore, 1) := by decide +kernel
theorem dL_dear_9 : decode cL_dear 9 = .ok (.goto 6, 3) := by decide +kernel
theorem dL_dear_12 : decode cL_dear 12 = .ok (.astore_n 3, 1) := by decide +kernel
theorem dL_dear_13 : decode cL_dear 13 = .ok (.iconst 1, 1) := by decide +kernel
theorem dL_dear_14 : decode cL_dear 14 = .ok (.ireturn, 1) := by decide +kernel
theorem dL_dear_15 : decode cL_dear 15 = .ok (.iconst 0, 1) := by decide +kernel
theorem dL_dear_16 : decode cL_dear 16 = .ok (.ireturn, 1) := by decide +kernel
theorem dL_draw_0 : decode cL_draw 0 = .ok (.aload 4, 2) := by decide +kernel
theorem dL_draw_2 : decode cL_draw 2 = .ok (.iconst 0, 1) := by decide +kernel
theorem dL_draw_3 : decode cL_draw 3 = .ok (.aload_n 0, 1) := by decide +kernel
theorem dL_draw_4 : decode cL_draw 4 = .ok (.iload_n 1, 1) := by decide +kernel
theorem dL_draw_5 : decode cL_draw 5 = .ok (.iload_n 2, 1) := by decide +kernel
theorem dL_draw_6 : decode cL_draw 6 = .ok (.iload_n 3, 1) := by decide +kernel
theorem dL_draw_7 : decode cL_draw 7 = .ok (.invokevirtual 50, 3) := by decide +kernel
theorem dL_draw_10 : decode cL_draw 10 = .ok (.i2l, 1) := by decide +kernel
theorem dL_draw_11 : decode cL_draw 11 = .ok (.lastore, 1) := by decide +kernel
theorem dL_draw_12 : decode cL_draw 12 = .ok (.goto 7, 3) := by decide +kernel
theorem dL_draw_15 : decode cL_draw 15 = .ok (.astore 5, 2) := by decide +kernel
theorem dL_draw_17 : decode cL_draw 17 = .ok (.iconst 1, 1) := by decide +kernel
theorem dL_draw_18 : decode cL_draw 18 = .ok (.ireturn, 1) := by decide +kernel
theorem dL_draw_19 : decode cL_draw 19 = .ok (.iconst 0, 1) := by decide +kernel
theorem dL_draw_20 : decode cL_draw 20 = .ok (.ireturn, 1) := by decide +kernel
theorem dL_drive_0 : decode cL_drive 0 = .ok (.aload 4, 2) := by decide +kernel
theorem dL_drive_2 : decode cL_drive 2 = .ok (.iconst 0, 1) := by decide +kernel
theorem dL_drive_3 : decode cL_drive 3 = .ok (.aload_n 0, 1) := by decide +kernel
theorem dL_drive_4 : decode cL_drive 4 = .ok (.iload_n 1, 1) := by decide +kernel
theorem dL_drive_5 : decode cL_drive 5 = .ok (.iload_n 2, 1) := by decide +kernel
theorem dL_drive_6 : decode cL_drive 6 = .ok (.iload_n 3, 1) := by decide +kernel
theorem dL_drive_7 : decode cL_drive 7 = .ok (.invokevirtual 70, 3) := by decide +kernel
theorem dL_drive_10 : decode cL_drive 10 = .ok (.i2l, 1) := by decide +kernel
theorem dL_drive_11 : decode cL_drive 11 = .ok (.lastore, 1) := by decide +kernel
theorem dL_drive_12 : decode cL_drive 12 = .ok (.goto 7, 3) := by decide +kernel
theorem dL_drive_15 : decode cL_drive 15 = .ok (.astore 5, 2) := by decide +kernel
theorem dL_drive_17 : decode cL_drive 17 = .ok (.iconst 1, 1) := by decide +kernel
theorem dL_drive_18 : decode cL_drive 18 = .ok (.ireturn, 1) := by decide +kernel
theorem dL_drive_19 : decode cL_drive 19 = .ok (.iconst 0, 1) := by decide +kernel
theorem dL_drive_20 : decode cL_drive 20 = .ok (.ireturn, 1) := by decide +kernel
theorem dL_edit_0 : decode cL_edit 0 = .ok (.aload 5, 2) := by decide +kernel
theorem dL_edit_2 : decode cL_edit 2 = .ok (.iconst 0, 1) := by decide +kernel
theorem dL_edit_3 : decode cL_edit 3 = .ok (.aload_n 0, 1) := by decide +kernel
theorem dL_edit_4 : decode cL_edit 4 = .ok (.iload_n 1, 1) := by decide +kernel
theorem dL_edit_5 : decode cL_edit 5 = .ok (.iload_n 2, 1) := by decide +kernel
theorem dL_edit_6 : decode cL_edit 6 = .ok (.iload_n 3, 1) := by decide +kernel
theorem dL_edit_7 : decode cL_edit 7 = .ok (.iload 4, 2) := by decide +kernel
theorem dL_edit_9 : decode cL_edit 9 = .ok (.invokevirtual 19, 3) := by decide +kernel
theorem dL_edit_12 : decode cL_edit 12 = .ok (.ifCond .eq 7, 3) := by decide +kernel
theorem dL_edit_15 : decode cL_edit 15 = .ok (.lconst 1, 1) := by decide +kernel
theorem dL_edit_16 : decode cL_edit 16 = .ok (.goto 4, 3) := by decide +kernel
theorem dL_edit_19 : decode cL_edit 19 = .ok (.lconst 0, 1) := by decide +kernel
theorem dL_edit_20 : decode cL_edit 20 = .ok (.lastore, 1) := by decide +kernel
theorem dL_edit_21 : decode cL_edit 21 = .ok (.goto 15, 3) := by decide +kernel
theorem dL_edit_24 : decode cL_edit 24 = .ok (.astore 6, 2) := by decide +kernel
theorem dL_edit_26 : decode cL_edit 26 = .ok (.iconst 1, 1) := by decide +kernel
theorem dL_edit_27 : decode cL_edit 27 = .ok (.ireturn, 1) := by decide +kernel
theorem dL_edit_28 : decode cL_edit 28 = .ok (.astore 6, 2) := by decide +kernel
theorem dL_edit_30 : decode cL_edit 30 = .ok (.iconst 2, 1) := by decide +kernel
theorem dL_edit_31 : decode cL_edit 31 = .ok (.ireturn, 1) := by decide +kernel
theorem dL_edit_32 : decode cL_edit 32 = .ok (.astore 6, 2) := by decide +kernel
theorem dL_edit_34 : decode cL_edit 34 = .ok (.iconst 3, 1) := by decide +kernel
theorem dL_edit_35 : decode cL_edit 35 = .ok (.ireturn, 1) := by decide +kernel
theorem dL_edit_36 : decode cL_edit 36 = .ok (.iconst 0, 1) := by decide +kernel
theorem dL_edit_37 : decode cL_edit 37 = .ok (.ireturn, 1) := by decide +kernel
theorem dL_guard_0 : decode cL_guard 0 = .ok (.aload_n 3, 1) := by decide +kernel
theorem dL_guard_1 : decode cL_guard 1 = .ok (.iconst 0, 1) := by decide +kernel
theorem dL_guard_2 : decode cL_guard 2 = .ok (.aload_n 0, 1) := by decide +kernel
theorem dL_guard_3 : decode cL_guard 3 = .ok (.iload_n 1, 1) := by decide +kernel
theorem dL_guard_4 : decode cL_guard 4 = .ok (.iload_n 2, 1) := by decide +kernel
theorem dL_guard_5 : decode cL_guard 5 = .ok (.invokevirtual 31, 3) := by decide +kernel
theorem dL_guard_8 : decode cL_guard 8 = .ok (.i2l, 1) := by decide +kernel
theorem dL_guard_9 : decode cL_guard 9 = .ok (.lastore, 1) := by decide +kernel
theorem dL_guard_10 : decode cL_guard 10 = .ok (.goto 11, 3) := by decide +kernel
theorem dL_guard_13 : decode cL_guard 13 = .ok (.astore 4, 2) := by decide +kernel
theorem dL_guard_15 : decode cL_guard 15 = .ok (.iconst 1, 1) := by decide +kernel
theorem dL_guard_16 : decode cL_guard 16 = .ok (.ireturn, 1) := by decide +kernel
theorem dL_guard_17 : decode cL_guard 17 = .ok (.astore 4, 2) := by decide +kernel
theorem dL_guard_19 : decode cL_guard 19 = .ok (.iconst 2, 1) := by decide +kernel
theorem dL_guard_20 : decode cL_guard 20 = .ok (.ireturn, 1) := by decide +kernel
theorem dL_guard_21 : decode cL_guard 21 = .ok (.iconst 0, 1) := by decide +kernel
theorem dL_guard_22 : decode cL_guard 22 = .ok (.ireturn, 1) := by decide +kernel
theorem dL_isStale_0 : decode cL_isStale 0 = .ok (.aload 4, 2) := by decide +kernel
theorem dL_isStale_2 : decode cL_isStale 2 = .ok (.iconst 0, 1) := by decide +kernel
theorem dL_isStale_3 : decode cL_isStale 3 = .ok (.aload_n 0, 1) := by decide +kernel
theorem dL_isStale_4 : decode cL_isStale 4 = .ok (.iload_n 1, 1) := by decide +kernel
theorem dL_isStale_5 : decode cL_isStale 5 = .ok (.iload_n 2, 1) := by decide +kernel
theorem dL_isStale_6 : decode cL_isStale 6 = .ok (.iload_n 3, 1) := by decide +kernel
theorem dL_isStale_7 : decode cL_isStale 7 = .ok (.invokevirtual 63, 3) := by decide +kernel
theorem dL_isStale_10 : decode cL_isStale 10 = .ok (.ifCond .eq 7, 3) := by decide +kernel
theorem dL_isStale_13 : decode cL_isStale 13 = .ok (.lconst 1, 1) := by decide +kernel
theorem dL_isStale_14 : decode cL_isStale 14 = .ok (.goto 4, 3) := by decide +kernel
theorem dL_isStale_17 : decode cL_isStale 17 = .ok (.lconst 0, 1) := by decide +kernel
theorem dL_isStale_18 : decode cL_isStale 18 = .ok (.lastore, 1) := by decide +kernel
theorem dL_isStale_19 : decode cL_isStale 19 = .ok (.goto 7, 3) := by decide +kernel
theorem dL_isStale_22 : decode cL_isStale 22 = .ok (.astore 5, 2) := by decide +kernel
theorem dL_isStale_24 : decode cL_isStale 24 = .ok (.iconst 1, 1) := by decide +kernel
theorem dL_isStale_25 : decode cL_isStale 25 = .ok (.ireturn, 1) := by decide +kernel
theorem dL_isStale_26 : decode cL_isStale 26 = .ok (.iconst 0, 1) := by decide +kernel
theorem dL_isStale_27 : decode cL_isStale 27 = .ok (.ireturn, 1) := by decide +kernel
theorem dL_judge_0 : decode cL_judge 0 = .ok (.aload 4, 2) := by decide +kernel
theorem dL_judge_2 : decode cL_judge 2 = .ok (.iconst 0, 1) := by decide +kernel
theorem dL_judge_3 : decode cL_judge 3 = .ok (.aload_n 0, 1) := by decide +kernel
theorem dL_judge_4 : decode cL_judge 4 = .ok (.iload_n 1, 1) := by decide +kernel
theorem dL_judge_5 : decode cL_judge 5 = .ok (.iload_n 2, 1) := by decide +kernel
theorem dL_judge_6 : decode cL_judge 6 = .ok (.iload_n 3, 1) := by decide +kernel
theorem dL_judge_7 : decode cL_judge 7 = .ok (.invokevirtual 23, 3) := by decide +kernel
theorem dL_judge_10 : decode cL_judge 10 = .ok (.i2l, 1) := by decide +kernel
theorem dL_judge_11 : decode cL_judge 11 = .ok (.lastore, 1) := by decide +kernel
theorem dL_judge_12 : decode cL_judge 12 = .ok (.goto 11, 3) := by decide +kernel
theorem dL_judge_15 : decode cL_judge 15 = .ok (.astore 5, 2) := by decide +kernel
theorem dL_judge_17 : decode cL_judge 17 = .ok (.iconst 1, 1) := by decide +kernel
theorem dL_judge_18 : decode cL_judge 18 = .ok (.ireturn, 1) := by decide +kernel
theorem dL_judge_19 : decode cL_judge 19 = .ok (.astore 5, 2) := by decide +kernel
theorem dL_judge_21 : decode cL_judge 21 = .ok (.iconst 2, 1) := by decide +kernel
theorem dL_judge_22 : decode cL_judge 22 = .ok (.ireturn, 1) := by decide +kernel
theorem dL_judge_23 : decode cL_judge 23 = .ok (.iconst 0, 1) := by decide +kernel
theorem dL_judge_24 : decode cL_judge 24 = .ok (.ireturn, 1) := by decide +kernel
theorem dL_picture_0 : decode cL_picture 0 = .ok (.aload 4, 2) := by decide +kernel
theorem dL_picture_2 : decode cL_picture 2 = .ok (.iconst 0, 1) := by decide +kernel
theorem dL_picture_3 : decode cL_picture 3 = .ok (.aload_n 0, 1) := by decide +kernel
theorem dL_picture_4 : decode cL_picture 4 = .ok (.iload_n 1, 1) := by decide +kernel
theorem dL_picture_5 : decode cL_picture 5 = .ok (.iload_n 2, 1) := by decide +kernel
theorem dL_picture_6 : decode cL_picture 6 = .ok (.iload_n 3, 1) := by decide +kernel
theorem dL_picture_7 : decode cL_picture 7 = .ok (.invokevirtual 54, 3) := by decide +kernel
theorem dL_picture_10 : decode cL_picture 10 = .ok (.i2l, 1) := by decide +kernel
theorem dL_picture_11 : decode cL_picture 11 = .ok (.lastore, 1) := by decide +kernel
theorem dL_picture_12 : decode cL_picture 12 = .ok (.goto 11, 3) := by decide +kernel
theorem dL_picture_15 : decode cL_picture 15 = .ok (.astore 5, 2) := by decide +kernel
theorem dL_picture_17 : decode cL_picture 17 = .ok (.iconst 1, 1) := by decide +kernel
theorem dL_picture_18 : decode cL_picture 18 = .ok (.ireturn, 1) := by decide +kernel
theorem dL_picture_19 : decode cL_picture 19 = .ok (.astore 5, 2) := by decide +kernel
theorem dL_picture_21 : decode cL_picture 21 = .ok (.iconst 2, 1) := by decide +kernel
theorem dL_picture_22 : decode cL_picture 22 = .ok (.ireturn, 1) := by decide +kernel
theorem dL_picture_23 : decode cL_picture 23 = .ok (.iconst 0, 1) := by decide +kernel
theorem dL_picture_24 : decode cL_picture 24 = .ok (.ireturn, 1) := by decide +kernel
theorem dL_pictureAnew_0 : decode cL_pictureAnew 0 = .ok (.aload 4, 2) := by decide +kernel
theorem dL_pictureAnew_2 : decode cL_pictureAnew 2 = .ok (.iconst 0, 1) := by decide +kernel
theorem dL_pictureAnew_3 : decode cL_pictureAnew 3 = .ok (.aload_n 0, 1) := by decide +kernel
theorem dL_pictureAnew_4 : decode cL_pictureAnew 4 = .ok (.iload_n 1, 1) := by decide +kernel
theorem dL_pictureAnew_5 : decode cL_pictureAnew 5 = .ok (.iload_n 2, 1) := by decide +kernel
theorem dL_pictureAnew_6 : decode cL_pictureAnew 6 = .ok (.iload_n 3, 1) := by decide +kernel
theorem dL_pictureAnew_7 : decode cL_pictureAnew 7 = .ok (.invokevirtual 57, 3) := by decide +kernel
theorem dL_pictureAnew_10 : decode cL_pictureAnew 10 = .ok (.i2l, 1) := by decide +kernel
theorem dL_pictureAnew_11 : decode cL_pictureAnew 11 = .ok (.lastore, 1) := by decide +kernel
theorem dL_pictureAnew_12 : decode cL_pictureAnew 12 = .ok (.goto 11, 3) := by decide +kernel
theorem dL_pictureAnew_15 : decode cL_pictureAnew 15 = .ok (.astore 5, 2) := by decide +kernel
theorem dL_pictureAnew_17 : decode cL_pictureAnew 17 = .ok (.iconst 1, 1) := by decide +kernel
theorem dL_pictureAnew_18 : decode cL_pictureAnew 18 = .ok (.ireturn, 1) := by decide +kernel
theorem dL_pictureAnew_19 : decode cL_pictureAnew 19 = .ok (.astore 5, 2) := by decide +kernel
theorem dL_pictureAnew_21 : decode cL_pictureAnew 21 = .ok (.iconst 2, 1) := by decide +kernel
theorem dL_pictureAnew_22 : decode cL_pictureAnew 22 = .ok (.ireturn, 1) := by decide +kernel
theorem dL_pictureAnew_23 : decode cL_pictureAnew 23 = .ok (.iconst 0, 1) := by decide +kernel
theorem dL_pictureAnew_24 : decode cL_pictureAnew 24 = .ok (.ireturn, 1) := by decide +kernel
theorem dL_revert_0 : decode cL_revert 0 = .ok (.aload_n 3, 1) := by decide +kernel
theorem dL_revert_1 : decode cL_revert 1 = .ok (.iconst 0, 1) := by decide +kernel
theorem dL_revert_2 : decode cL_revert 2 = .ok (.aload_n 0, 1) := by decide +kernel
theorem dL_revert_3 : decode cL_revert 3 = .ok (.iload_n 1, 1) := by decide +kernel
theorem dL_revert_4 : decode cL_revert 4 = .ok (.iload_n 2, 1) := by decide +kernel
theorem dL_revert_5 : decode cL_revert 5 = .ok (.invokevirtual 27, 3) := by decide +kernel
theorem dL_revert_8 : decode cL_revert 8 = .ok (.i2l, 1) := by decide +kernel
theorem dL_revert_9 : decode cL_revert 9 = .ok (.lastore, 1) := by decide +kernel
theorem dL_revert_10 : decode cL_revert 10 = .ok (.goto 11, 3) := by decide +kernel
theorem dL_revert_13 : decode cL_revert 13 = .ok (.astore 4, 2) := by decide +kernel
theorem dL_revert_15 : decode cL_revert 15 = .ok (.iconst 1, 1) := by decide +kernel
theorem dL_revert_16 : decode cL_revert 16 = .ok (.ireturn, 1) := by decide +kernel
theorem dL_revert_17 : decode cL_revert 17 = .ok (.astore 4, 2) := by decide +kernel
theorem dL_revert_19 : decode cL_revert 19 = .ok (.iconst 2, 1) := by decide +kernel
theorem dL_revert_20 : decode cL_revert 20 = .ok (.ireturn, 1) := by decide +kernel
theorem dL_revert_21 : decode cL_revert 21 = .ok (.iconst 0, 1) := by decide +kernel
theorem dL_revert_22 : decode cL_revert 22 = .ok (.ireturn, 1) := by decide +kernel
theorem dL_see_0 : decode cL_see 0 = .ok (.aload 5, 2) := by decide +kernel
theorem dL_see_2 : decode cL_see 2 = .ok (.iconst 0, 1) := by decide +kernel
theorem dL_see_3 : decode cL_see 3 = .ok (.aload_n 0, 1) := by decide +kernel
theorem dL_see_4 : decode cL_see 4 = .ok (.iload_n 1, 1) := by decide +kernel
theorem dL_see_5 : decode cL_see 5 = .ok (.iload_n 2, 1) := by decide +kernel
theorem dL_see_6 : decode cL_see 6 = .ok (.iload_n 3, 1) := by decide +kernel
theorem dL_see_7 : decode cL_see 7 = .ok (.iload 4, 2) := by decide +kernel
theorem dL_see_9 : decode cL_see 9 = .ok (.invokevirtual 73, 3) := by decide +kernel
theorem dL_see_12 : decode cL_see 12 = .ok (.ifCond .eq 7, 3) := by decide +kernel
theorem dL_see_15 : decode cL_see 15 = .ok (.lconst 1, 1) := by decide +kernel
theorem dL_see_16 : decode cL_see 16 = .ok (.goto 4, 3) := by decide +kernel
theorem dL_see_19 : decode cL_see 19 = .ok (.lconst 0, 1) := by decide +kernel
theorem dL_see_20 : decode cL_see 20 = .ok (.lastore, 1) := by decide +kernel
theorem dL_see_21 : decode cL_see 21 = .ok (.goto 15, 3) := by decide +kernel
theorem dL_see_24 : decode cL_see 24 = .ok (.astore 6, 2) := by decide +kernel
theorem dL_see_26 : decode cL_see 26 = .ok (.iconst 1, 1) := by decide +kernel
theorem dL_see_27 : decode cL_see 27 = .ok (.ireturn, 1) := by decide +kernel
theorem dL_see_28 : decode cL_see 28 = .ok (.astore 6, 2) := by decide +kernel
theorem dL_see_30 : decode cL_see 30 = .ok (.iconst 2, 1) := by decide +kernel
theorem dL_see_31 : decode cL_see 31 = .ok (.ireturn, 1) := by decide +kernel
theorem dL_see_32 : decode cL_see 32 = .ok (.astore 6, 2) := by decide +kernel
theorem dL_see_34 : decode cL_see 34 = .ok (.iconst 3, 1) := by decide +kernel
theorem dL_see_35 : decode cL_see 35 = .ok (.ireturn, 1) := by decide +kernel
theorem dL_see_36 : decode cL_see 36 = .ok (.iconst 0, 1) := by decide +kernel
theorem dL_see_37 : decode cL_see 37 = .ok (.ireturn, 1) := by decide +kernel
theorem dL_send_0 : decode cL_send 0 = .ok (.aload_n 2, 1) := by decide +kernel
theorem dL_send_1 : decode cL_send 1 = .ok (.iconst 0, 1) := by decide +kernel
theorem dL_send_2 : decode cL_send 2 = .ok (.aload_n 0, 1) := by decide +kernel
theorem dL_send_3 : decode cL_send 3 = .ok (.iload_n 1, 1) := by decide +kernel
theorem dL_send_4 : decode cL_send 4 = .ok (.invokevirtual 85, 3) := by decide +kernel
theorem dL_send_7 : decode cL_send 7 = .ok (.i2l, 1) := by decide +kernel
theorem dL_send_8 : decode cL_send 8 = .ok (.lastore, 1) := by decide +kernel
theorem dL_send_9 : decode cL_send 9 = .ok (.goto 9, 3) := by decide +kernel
theorem dL_send_12 : decode cL_send 12 = .ok (.astore_n 3, 1) := by decide +kernel
theorem dL_send_13 : decode cL_send 13 = .ok (.iconst 1, 1) := by decide +kernel
theorem dL_send_14 : decode cL_send 14 = .ok (.ireturn, 1) := by decide +kernel
theorem dL_send_15 : decode cL_send 15 = .ok (.astore_n 3, 1) := by decide +kernel
theorem dL_send_16 : decode cL_send 16 = .ok (.iconst 2, 1) := by decide +kernel
theorem dL_send_17 : decode cL_send 17 = .ok (.ireturn, 1) := by decide +kernel
theorem dL_send_18 : decode cL_send 18 = .ok (.iconst 0, 1) := by decide +kernel
theorem dL_send_19 : decode cL_send 19 = .ok (.ireturn, 1) := by decide +kernel
theorem dL_sightings_0 : decode cL_sightings 0 = .ok (.aload_n 2, 1) := by decide +kernel
theorem dL_sightings_1 : decode cL_sightings 1 = .ok (.iconst 0, 1) := by decide +kernel
theorem dL_sightings_2 : decode cL_sightings 2 = .ok (.aload_n 0, 1) := by decide +kernel
theorem dL_sightings_3 : decode cL_sightings 3 = .ok (.iload_n 1, 1) := by decide +kernel
theorem dL_sightings_4 : decode cL_sightings 4 = .ok (.invokevirtual 76, 3) := by decide +kernel
theorem dL_sightings_7 : decode cL_sightings 7 = .ok (.i2l, 1) := by decide +kernel
theorem dL_sightings_8 : decode cL_sightings 8 = .ok (.lastore, 1) := by decide +kernel
theorem dL_sightings_9 : decode cL_sightings 9 = .ok (.goto 6, 3) := by decide +kernel
theorem dL_sightings_12 : decode cL_sightings 12 = .ok (.astore_n 3, 1) := by decide +kernel
theorem dL_sightings_13 : decode cL_sightings 13 = .ok (.iconst 1, 1) := by decide +kernel
theorem dL_sightings_14 : decode cL_sightings 14 = .ok (.ireturn, 1) := by decide +kernel
theorem dL_sightings_15 : decode cL_sightings 15 = .ok (.iconst 0, 1) := by decide +kernel
theorem dL_sightings_16 : decode cL_sightings 16 = .ok (.ireturn, 1) := by decide +kernel
theorem dL_staleTiles_0 : decode cL_staleTiles 0 = .ok (.aload_n 2, 1) := by decide +kernel
theorem dL_staleTiles_1 : decode cL_staleTiles 1 = .ok (.iconst 0, 1) := by decide +kernel
theorem dL_staleTiles_2 : decode cL_staleTiles 2 = .ok (.aload_n 0, 1) := by decide +kernel
theorem dL_staleTiles_3 : decode cL_staleTiles 3 = .ok (.iload_n 1, 1) := by decide +kernel
theorem dL_staleTiles_4 : decode cL_staleTiles 4 = .ok (.invokevirtual 67, 3) := by decide +kernel
theorem dL_staleTiles_7 : decode cL_staleTiles 7 = .ok (.i2l, 1) := by decide +kernel
theorem dL_staleTiles_8 : decode cL_staleTiles 8 = .ok (.lastore, 1) := by decide +kernel
theorem dL_staleTiles_9 : decode cL_staleTiles 9 = .ok (.goto 6, 3) := by decide +kernel
theorem dL_staleTiles_12 : decode cL_staleTiles 12 = .ok (.astore_n 3, 1) := by decide +kernel
theorem dL_staleTiles_13 : decode cL_staleTiles 13 = .ok (.iconst 1, 1) := by decide +kernel
theorem dL_staleTiles_14 : decode cL_staleTiles 14 = .ok (.ireturn, 1) := by decide +kernel
theorem dL_staleTiles_15 : decode cL_staleTiles 15 = .ok (.iconst 0, 1) := by decide +kernel
theorem dL_staleTiles_16 : decode cL_staleTiles 16 = .ok (.ireturn, 1) := by decide +kernel
theorem dL_stampOf_0 : decode cL_stampOf 0 = .ok (.aload_n 3, 1) := by decide +kernel
theorem dL_stampOf_1 : decode cL_stampOf 1 = .ok (.iconst 0, 1) := by decide +kernel
theorem dL_stampOf_2 : decode cL_stampOf 2 = .ok (.aload_n 0, 1) := by decide +kernel
theorem dL_stampOf_3 : decode cL_stampOf 3 = .ok (.iload_n 1, 1) := by decide +kernel
theorem dL_stampOf_4 : decode cL_stampOf 4 = .ok (.iload_n 2, 1) := by decide +kernel
theorem dL_stampOf_5 : decode cL_stampOf 5 = .ok (.invokevirtual 44, 3) := by decide +kernel
theorem dL_stampOf_8 : decode cL_stampOf 8 = .ok (.i2l, 1) := by decide +kernel
theorem dL_stampOf_9 : decode cL_stampOf 9 = .ok (.lastore, 1) := by decide +kernel
theorem dL_stampOf_10 : decode cL_stampOf 10 = .ok (.goto 7, 3) := by decide +kernel
theorem dL_stampOf_13 : decode cL_stampOf 13 = .ok (.astore 4, 2) := by decide +kernel
theorem dL_stampOf_15 : decode cL_stampOf 15 = .ok (.iconst 1, 1) := by decide +kernel
theorem dL_stampOf_16 : decode cL_stampOf 16 = .ok (.ireturn, 1) := by decide +kernel
theorem dL_stampOf_17 : decode cL_stampOf 17 = .ok (.iconst 0, 1) := by decide +kernel
theorem dL_stampOf_18 : decode cL_stampOf 18 = .ok (.ireturn, 1) := by decide +kernel
theorem dL_target_0 : decode cL_target 0 = .ok (.aload_n 2, 1) := by decide +kernel
theorem dL_target_1 : decode cL_target 1 = .ok (.iconst 0, 1) := by decide +kernel
theorem dL_target_2 : decode cL_target 2 = .ok (.aload_n 0, 1) := by decide +kernel
theorem dL_target_3 : decode cL_target 3 = .ok (.iload_n 1, 1) := by decide +kernel
theorem dL_target_4 : decode cL_target 4 = .ok (.invokevirtual 82, 3) := by decide +kernel
theorem dL_target_7 : decode cL_target 7 = .ok (.i2l, 1) := by decide +kernel
theorem dL_target_8 : decode cL_target 8 = .ok (.lastore, 1) := by decide +kernel
theorem dL_target_9 : decode cL_target 9 = .ok (.goto 6, 3) := by decide +kernel
theorem dL_target_12 : decode cL_target 12 = .ok (.astore_n 3, 1) := by decide +kernel
theorem dL_target_13 : decode cL_target 13 = .ok (.iconst 1, 1) := by decide +kernel
theorem dL_target_14 : decode cL_target 14 = .ok (.ireturn, 1) := by decide +kernel
theorem dL_target_15 : decode cL_target 15 = .ok (.iconst 0, 1) := by decide +kernel
theorem dL_target_16 : decode cL_target 16 = .ok (.ireturn, 1) := by decide +kernel
theorem dL_tileStamp_0 : decode cL_tileStamp 0 = .ok (.aload 4, 2) := by decide +kernel
theorem dL_tileStamp_2 : decode cL_tileStamp 2 = .ok (.iconst 0, 1) := by decide +kernel
theorem dL_tileStamp_3 : decode cL_tileStamp 3 = .ok (.aload_n 0, 1) := by decide +kernel
theorem dL_tileStamp_4 : decode cL_tileStamp 4 = .ok (.iload_n 1, 1) := by decide +kernel
theorem dL_tileStamp_5 : decode cL_tileStamp 5 = .ok (.iload_n 2, 1) := by decide +kernel
theorem dL_tileStamp_6 : decode cL_tileStamp 6 = .ok (.iload_n 3, 1) := by decide +kernel
theorem dL_tileStamp_7 : decode cL_tileStamp 7 = .ok (.invokevirtual 60, 3) := by decide +kernel
theorem dL_tileStamp_10 : decode cL_tileStamp 10 = .ok (.i2l, 1) := by decide +kernel
theorem dL_tileStamp_11 : decode cL_tileStamp 11 = .ok (.lastore, 1) := by decide +kernel
theorem dL_tileStamp_12 : decode cL_tileStamp 12 = .ok (.goto 7, 3) := by decide +kernel
theorem dL_tileStamp_15 : decode cL_tileStamp 15 = .ok (.astore 5, 2) := by decide +kernel
theorem dL_tileStamp_17 : decode cL_tileStamp 17 = .ok (.iconst 1, 1) := by decide +kernel
theorem dL_tileStamp_18 : decode cL_tileStamp 18 = .ok (.ireturn, 1) := by decide +kernel
theorem dL_tileStamp_19 : decode cL_tileStamp 19 = .ok (.iconst 0, 1) := by decide +kernel
theorem dL_tileStamp_20 : decode cL_tileStamp 20 = .ok (.ireturn, 1) := by decide +kernel
theorem dL_trust_0 : decode cL_trust 0 = .ok (.aload_n 2, 1) := by decide +kernel
theorem dL_trust_1 : decode cL_trust 1 = .ok (.iconst 0, 1) := by decide +kernel
theorem dL_trust_2 : decode cL_trust 2 = .ok (.aload_n 0, 1) := by decide +kernel
theorem dL_trust_3 : decode cL_trust 3 = .ok (.iload_n 1, 1) := by decide +kernel
theorem dL_trust_4 : decode cL_trust 4 = .ok (.invokevirtual 34, 3) := by decide +kernel
theorem dL_trust_7 : decode cL_trust 7 = .ok (.i2l, 1) := by decide +kernel
theorem dL_trust_8 : decode cL_trust 8 = .ok (.lastore, 1) := by decide +kernel
theorem dL_trust_9 : decode cL_trust 9 = .ok (.goto 6, 3) := by decide +kernel
theorem dL_trust_12 : decode cL_trust 12 = .ok (.astore_n 3, 1) := by decide +kernel
theorem dL_trust_13 : decode cL_trust 13 = .ok (.iconst 1, 1) := by decide +kernel
theorem dL_trust_14 : decode cL_trust 14 = .ok (.ireturn, 1) := by decide +kernel
theorem dL_trust_15 : decode cL_trust 15 = .ok (.iconst 0, 1) := by decide +kernel
theorem dL_trust_16 : decode cL_trust 16 = .ok (.ireturn, 1) := by decide +kernel
theorem dL_version_0 : decode cL_version 0 = .ok (.aload_n 3, 1) := by decide +kernel
theorem dL_version_1 : decode cL_version 1 = .ok (.iconst 0, 1) := by decide +kernel
theorem dL_version_2 : decode cL_version 2 = .ok (.aload_n 0, 1) := by decide +kernel
theorem dL_version_3 : decode cL_version 3 = .ok (.iload_n 1, 1) := by decide +kernel
theorem dL_version_4 : decode cL_version 4 = .ok (.iload_n 2, 1) := by decide +kernel
theorem dL_version_5 : decode cL_version 5 = .ok (.invokevirtual 41, 3) := by decide +kernel
theorem dL_version_8 : decode cL_version 8 = .ok (.i2l, 1) := by decide +kernel
theorem dL_version_9 : decode cL_version 9 = .ok (.lastore, 1) := by decide +kernel
theorem dL_version_10 : decode cL_version 10 = .ok (.goto 7, 3) := by decide +kernel
theorem dL_version_13 : decode cL_version 13 = .ok (.astore 4, 2) := by decide +kernel
theorem dL_version_15 : decode cL_version 15 = .ok (.iconst 1, 1) := by decide +kernel
theorem dL_version_16 : decode cL_version 16 = .ok (.ireturn, 1) := by decide +kernel
theorem dL_version_17 : decode cL_version 17 = .ok (.iconst 0, 1) := by decide +kernel
theorem dL_version_18 : decode cL_version 18 = .ok (.ireturn, 1) := by decide +kernel
theorem dL_versions_0 : decode cL_versions 0 = .ok (.aload_n 2, 1) := by decide +kernel
theorem dL_versions_1 : decode cL_versions 1 = .ok (.iconst 0, 1) := by decide +kernel
theorem dL_versions_2 : decode cL_versions 2 = .ok (.aload_n 0, 1) := by decide +kernel
theorem dL_versions_3 : decode cL_versions 3 = .ok (.iload_n 1, 1) := by decide +kernel
theorem dL_versions_4 : decode cL_versions 4 = .ok (.invokevirtual 38, 3) := by decide +kernel
theorem dL_versions_7 : decode cL_versions 7 = .ok (.i2l, 1) := by decide +kernel
theorem dL_versions_8 : decode cL_versions 8 = .ok (.lastore, 1) := by decide +kernel
theorem dL_versions_9 : decode cL_versions 9 = .ok (.goto 6, 3) := by decide +kernel
theorem dL_versions_12 : decode cL_versions 12 = .ok (.astore_n 3, 1) := by decide +kernel
theorem dL_versions_13 : decode cL_versions 13 = .ok (.iconst 1, 1) := by decide +kernel
theorem dL_versions_14 : decode cL_versions 14 = .ok (.ireturn, 1) := by decide +kernel
theorem dL_versions_15 : decode cL_versions 15 = .ok (.iconst 0, 1) := by decide +kernel
theorem dL_versions_16 : decode cL_versions 16 = .ok (.ireturn, 1) := by decide +kernel
theorem dL_waiting_0 : decode cL_waiting 0 = .ok (.aload_n 2, 1) := by decide +kernel
theorem dL_waiting_1 : decode cL_waiting 1 = .ok (.iconst 0, 1) := by decide +kernel
theorem dL_waiting_2 : decode cL_waiting 2 = .ok (.aload_n 0, 1) := by decide +kernel
theorem dL_waiting_3 : decode cL_waiting 3 = .ok (.iload_n 1, 1) := by decide +kernel
theorem dL_waiting_4 : decode cL_waiting 4 = .ok (.invokevirtual 47, 3) := by decide +kernel
theorem dL_waiting_7 : decode cL_waiting 7 = .ok (.i2l, 1) := by decide +kernel
theorem dL_waiting_8 : decode cL_waiting 8 = .ok (.lastore, 1) := by decide +kernel
theorem dL_waiting_9 : decode cL_waiting 9 = .ok (.goto 6, 3) := by decide +kernel
theorem dL_waiting_12 : decode cL_waiting 12 = .ok (.astore_n 3, 1) := by decide +kernel
theorem dL_waiting_13 : decode cL_waiting 13 = .ok (.iconst 1, 1) := by decide +kernel
theorem dL_waiting_14 : decode cL_waiting 14 = .ok (.ireturn, 1) := by decide +kernel
theorem dL_waiting_15 : decode cL_waiting 15 = .ok (.iconst 0, 1) := by decide +kernel
theorem dL_waiting_16 : decode cL_waiting 16 = .ok (.ireturn, 1) := by decide +kernel
set_option maxHeartbeats 4000000 in
set_option maxRecDepth 100000 in
theorem m_L_addWay (l : Launch) (hflag : l.stackTraces = false) (G : k_G) (Z : Nat → Prop) (w : Nat) (cJ : ClassId) (ad : k_Ad) (mm : q_Mem) (f9 : Nat → Int64) (f x y n k : Int32) (hI : Inv mm) (hK1 : sp_K mm < 512) : lo_C l yL_addWay cL_addWay 8 [(0, 16, 19, 13), (0, 16, 23, 15), (0, 16, 27, 17)] 8 183 9 100 G Z w cJ ad (k_C G ad mm) f9 [.ref (ad 0 0), .int f, .int x, .int y, .int n, .int k, .ref w] (lo_P G ad Int32.toInt64 (sp_add mm f x y n k)) := by
  refine lo_of (by decide) (Nat.le_of_ble_eq_true rfl) ?_
  intro p e s m args below meth c hx hb hr hF hlk htab hB ls hl
  have hl : lv_has ls 8 [(0, .ref (ad 0 0)), (1, .int f), (2, .int x), (3, .int y), (4, .int n), (5, .int k), (6, .ref w)] := hl
  refine lv_aload hx hb dL_addWay_0 (lv_at hl 6 rfl) ?_
  refine lv_iconst (v := 0) hx hb dL_addWay_2 (by decide) ?_
  refine lv_aload_n hx hb dL_addWay_3 rfl (lv_at hl 0 rfl) ?_
  refine lv_iload_n hx hb dL_addWay_4 rfl (lv_at hl 1 rfl) ?_
  refine lv_iload_n hx hb dL_addWay_5 rfl (lv_at hl 2 rfl) ?_
  refine lv_iload_n hx hb dL_addWay_6 rfl (lv_at hl 3 rfl) ?_
  refine lv_iload hx hb dL_addWay_7 (lv_at hl 4 rfl) ?_
  refine lv_iload hx hb dL_addWay_9 (lv_at hl 5 rfl) ?_
  refine lo_iV (C := RX4) (A0 := lo_A Z w) (fr := 7) (lo := 155) (mc1 := 9) (ms1 := 100) (As := [.int f, .int x, .int y, .int n, .int k]) (rest := [.int 0, .ref w]) hF (m_X4_addWay l hflag G Z ad mm f x y n k hI hK1) ke_X4_addWay wd_l_L_7 (by decide) hB.1 (g_recv hB.1.2.1 (hB.1.1.1 0 0 _ rfl) rfl) rfl hl.1 rfl (Nat.le_of_ble_eq_true rfl) dL_addWay_11 (by decide) (fun q h => Or.inl h) ?_ ?_
  · intro E ce q9 H locs hX hM hN hS hfr hce hcv hcl
    obtain ⟨v, hv, hres, hE⟩ := hX
    have h19 : (sp_add mm f x y n k).2 19 0 = v := by rw [hres]; show up2 mm 19 0 v 19 0 = v; exact up2_s
    have hkc : k_C G ad mm = k_C G ad (sp_add mm f x y n k).2 := by rw [hres]; rfl
    have hw9 := hB.2.1.1.kept (hfr _ hB.2.1.1.lt hB.2.1.2)
    rcases hv with rfl | rfl | ⟨rfl, hv⟩
    · skip
      obtain rfl : E = k_IOB := hE.trans (by decide)
      refine lo_catch hF hB.1.2.2.1 [] ⟨0, 16, 19, 13⟩ [⟨0, 16, 23, 15⟩, ⟨0, 16, 27, 17⟩] htab (fun z hz => absurd hz List.not_mem_nil) (by decide) (by decide) wd_k_L_13 lo_c1 hce hcv hcl ?_
      refine lv_astore (lv' := [(7, .ref q9), (0, .ref (ad 0 0)), (1, .int f), (2, .int x), (3, .int y), (4, .int n), (5, .int k), (6, .ref w)]) hx hb dL_addWay_19 hl (by decide) rfl (fun ls hl => ?_)
      refine lv_iconst (v := 1) hx hb dL_addWay_21 (by decide) ?_
      exact lo_iret hx hb hr hlk hM hN hB.1.2.1 hw9 hS (by decide) (by decide) (⟨h19.symm, hkc, rfl, fun q => absurd q (by decide)⟩) dL_addWay_22
    · skip
      obtain rfl : E = k_IAE := hE.trans (by decide)
      refine lo_catch hF hB.1.2.2.1 [⟨0, 16, 19, 13⟩] ⟨0, 16, 23, 15⟩ [⟨0, 16, 27, 17⟩] htab (fun z hz => by rcases List.mem_singleton.mp hz with rfl; exact ⟨by decide, _, wd_k_L_13, hB.2.2.2.1⟩) (by decide) (by decide) wd_k_L_15 lo_c2 hce hcv hcl ?_
      refine lv_astore (lv' := [(7, .ref q9), (0, .ref (ad 0 0)), (1, .int f), (2, .int x), (3, .int y), (4, .int n), (5, .int k), (6, .ref w)]) hx hb dL_addWay_23 hl (by decide) rfl (fun ls hl => ?_)
      refine lv_iconst (v := 2) hx hb dL_addWay_25 (by decide) ?_
      exact lo_iret hx hb hr hlk hM hN hB.1.2.1 hw9 hS (by decide) (by decide) (⟨h19.symm, hkc, rfl, fun q => absurd q (by decide)⟩) dL_addWay_26
    · skip
      obtain rfl : E = k_ISE := hE.trans (by decide)
      refine lo_catch hF hB.1.2.2.1 [⟨0, 16, 19, 13⟩, ⟨0, 16, 23, 15⟩] ⟨0, 16, 27, 17⟩ [] htab (fun z hz => by
        rcases List.mem_cons.mp hz with rfl | hz2
        · exact ⟨by decide, _, wd_k_L_13, hB.2.2.2.2.1⟩
        · rcases List.mem_singleton.mp hz2 with rfl; exact ⟨by decide, _, wd_k_L_15, hB.2.2.2.2.2⟩) (by decide) (by decide) wd_k_L_17 lo_c3 hce hcv hcl ?_
      refine lv_astore (lv' := [(7, .ref q9), (0, .ref (ad 0 0)), (1, .int f), (2, .int x), (3, .int y), (4, .int n), (5, .int k), (6, .ref w)]) hx hb dL_addWay_27 hl (by decide) rfl (fun ls hl => ?_)
      refine lv_iconst (v := 3) hx hb dL_addWay_29 (by decide) ?_
      exact lo_iret hx hb hr hlk hM hN hB.1.2.1 hw9 hS (by decide) (by decide) (⟨h19.symm, hkc, rfl, fun q => absurd q (by decide)⟩) dL_addWay_30
  · intro r u H locs hp hM hN hS hfr
    obtain ⟨ad1, ct1⟩ := u
    obtain ⟨hu, hr1, h19, h00⟩ := hp
    replace hu : ct1 = k_C G ad1 (sp_add mm f x y n k).2 := hu
    replace h00 : ad1 0 0 = ad 0 0 := h00
    replace hM : k_H G ad1 ct1 H := hM
    replace hN : k_N Z ad1 ct1 := hN
    have hw9 := hB.2.1.1.kept (hfr _ hB.2.1.1.lt hB.2.1.2)
    refine lv_i2l (v := Int32.toInt64 r) hx hb dL_addWay_14 rfl ?_
    refine lo_last hF hB.2.2.1 hw9 hM hN hB.2.1.2 hS dL_addWay_15 (fun H locs f1 hf1 hw9 hM hS => ?_)
    refine lv_goto (tgt := 31) hx hb dL_addWay_16 (by decide) ?_
    refine lv_iconst (v := 0) hx hb dL_addWay_31 (by decide) ?_
    exact lo_iret hx hb hr hlk hM hN hB.1.2.1 hw9 hS (by decide) (by decide) (⟨h19.symm, hu, h00, fun _ => hf1.trans (by rw [hr1])⟩) dL_addWay_32
set_option maxHeartbeats 4000000 in
set_option maxRecDepth 100000 in
theorem m_L_edit (l : Launch) (hflag : l.stackTraces = false) (G : k_G) (Z : Nat → Prop) (w : Nat) (cJ : ClassId) (ad : k_Ad) (mm : q_Mem) (f9 : Nat → Int64) (x y k d : Int32) (hI : Inv mm) (hK1 : sp_K mm < 512) : lo_C l yL_edit cL_edit 7 [(0, 21, 24, 13), (0, 21, 28, 15), (0, 21, 32, 17)] 8 137 4 19 G Z w cJ ad (k_C G ad mm) f9 [.ref (ad 0 0), .int x, .int y, .int k, .int d, .ref w] (lo_P G ad (fun v => if v = 0 then (0 : Int64) else 1) (sp_edit mm x y k d)) := by
  refine lo_of (by decide) (Nat.le_of_ble_eq_true rfl) ?_
  intro p e s m args below meth c hx hb hr hF hlk htab hB ls hl
  have hl : lv_has ls 7 [(0, .ref (ad 0 0)), (1, .int x), (2, .int y), (3, .int k), (4, .int d), (5, .ref w)] := hl
  refine lv_aload hx hb dL_edit_0 (lv_at hl 5 rfl) ?_
  refine lv_iconst (v := 0) hx hb dL_edit_2 (by decide) ?_
  refine lv_aload_n hx hb dL_edit_3 rfl (lv_at hl 0 rfl) ?_
  refine lv_iload_n hx hb dL_edit_4 rfl (lv_at hl 1 rfl) ?_
  refine lv_iload_n hx hb dL_edit_5 rfl (lv_at hl 2 rfl) ?_
  refine lv_iload_n hx hb dL_edit_6 rfl (lv_at hl 3 rfl) ?_
  refine lv_iload hx hb dL_edit_7 (lv_at hl 4 rfl) ?_
  refine lo_iV (C := RX4) (A0 := lo_A Z w) (fr := 7) (lo := 111) (mc1 := 4) (ms1 := 19) (As := [.int x, .int y, .int k, .int d]) (rest := [.int 0, .ref w]) hF (m_X4_edit l hflag G Z ad mm x y k d hI hK1) ke_X4_edit wd_l_L_19 (by decide) hB.1 (g_recv hB.1.2.1 (hB.1.1.1 0 0 _ rfl) rfl) rfl hl.1 rfl (Nat.le_of_ble_eq_true rfl) dL_edit_9 (by decide) (fun q h => Or.inl h) ?_ ?_
  · intro E ce q9 H locs hX hM hN hS hfr hce hcv hcl
    obtain ⟨v, hv, hres, hE⟩ := hX
    have h19 : (sp_edit mm x y k d).2 19 0 = v := by rw [hres]; show up2 mm 19 0 v 19 0 = v; exact up2_s
    have hkc : k_C G ad mm = k_C G ad (sp_edit mm x y k d).2 := by rw [hres]; rfl
    have hw9 := hB.2.1.1.kept (hfr _ hB.2.1.1.lt hB.2.1.2)
    rcases hv with rfl | rfl | ⟨rfl, hv⟩
    · skip
      obtain rfl : E = k_IOB := hE.trans (by decide)
      refine lo_catch hF hB.1.2.2.1 [] ⟨0, 21, 24, 13⟩ [⟨0, 21, 28, 15⟩, ⟨0, 21, 32, 17⟩] htab (fun z hz => absurd hz List.not_mem_nil) (by decide) (by decide) wd_k_L_13 lo_c1 hce hcv hcl ?_
      refine lv_astore (lv' := [(6, .ref q9), (0, .ref (ad 0 0)), (1, .int x), (2, .int y), (3, .int k), (4, .int d), (5, .ref w)]) hx hb dL_edit_24 hl (by decide) rfl (fun ls hl => ?_)
      refine lv_iconst (v := 1) hx hb dL_edit_26 (by decide) ?_
      exact lo_iret hx hb hr hlk hM hN hB.1.2.1 hw9 hS (by decide) (by decide) (⟨h19.symm, hkc, rfl, fun q => absurd q (by decide)⟩) dL_edit_27
    · skip
      obtain rfl : E = k_IAE := hE.trans (by decide)
      refine lo_catch hF hB.1.2.2.1 [⟨0, 21, 24, 13⟩] ⟨0, 21, 28, 15⟩ [⟨0, 21, 32, 17⟩] htab (fun z hz => by rcases List.mem_singleton.mp hz with rfl; exact ⟨by decide, _, wd_k_L_13, hB.2.2.2.1⟩) (by decide) (by decide) wd_k_L_15 lo_c2 hce hcv hcl ?_
      refine lv_astore (lv' := [(6, .ref q9), (0, .ref (ad 0 0)), (1, .int x), (2, .int y), (3, .int k), (4, .int d), (5, .ref w)]) hx hb dL_edit_28 hl (by decide) rfl (fun ls hl => ?_)
      refine lv_iconst (v := 2) hx hb dL_edit_30 (by decide) ?_
      exact lo_iret hx hb hr hlk hM hN hB.1.2.1 hw9 hS (by decide) (by decide) (⟨h19.symm, hkc, rfl, fun q => absurd q (by decide)⟩) dL_edit_31
    · skip
      obtain rfl : E = k_ISE := hE.trans (by decide)
      refine lo_catch hF hB.1.2.2.1 [⟨0, 21, 24, 13⟩, ⟨0, 21, 28, 15⟩] ⟨0, 21, 32, 17⟩ [] htab (fun z hz => by
        rcases List.mem_cons.mp hz with rfl | hz2
        · exact ⟨by decide, _, wd_k_L_13, hB.2.2.2.2.1⟩
        · rcases List.mem_singleton.mp hz2 with rfl; exact ⟨by decide, _, wd_k_L_15, hB.2.2.2.2.2⟩) (by decide) (by decide) wd_k_L_17 lo_c3 hce hcv hcl ?_
      refine lv_astore (lv' := [(6, .ref q9), (0, .ref (ad 0 0)), (1, .int x), (2, .int y), (3, .int k), (4, .int d), (5, .ref w)]) hx hb dL_edit_32 hl (by decide) rfl (fun ls hl => ?_)
      refine lv_iconst (v := 3) hx hb dL_edit_34 (by decide) ?_
      exact lo_iret hx hb hr hlk hM hN hB.1.2.1 hw9 hS (by decide) (by decide) (⟨h19.symm, hkc, rfl, fun q => absurd q (by decide)⟩) dL_edit_35
  · intro r u H locs hp hM hN hS hfr
    obtain ⟨ad1, ct1⟩ := u
    obtain ⟨hu, hr1, h19, h00⟩ := hp
    replace hu : ct1 = k_C G ad1 (sp_edit mm x y k d).2 := hu
    replace h00 : ad1 0 0 = ad 0 0 := h00
    replace hM : k_H G ad1 ct1 H := hM
    replace hN : k_N Z ad1 ct1 := hN
    have hw9 := hB.2.1.1.kept (hfr _ hB.2.1.1.lt hB.2.1.2)
    refine lv_if_eq (tgt := 19) hx hb dL_edit_12 (by decide) (fun cB => ?_) (fun cB => ?_)
    · skip
      refine lv_lconst (v := 0) hx hb dL_edit_19 rfl ?_
      refine lo_last hF hB.2.2.1 hw9 hM hN hB.2.1.2 hS dL_edit_20 (fun H locs f1 hf1 hw9 hM hS => ?_)
      refine lv_goto (tgt := 36) hx hb dL_edit_21 (by decide) ?_
      refine lv_iconst (v := 0) hx hb dL_edit_36 (by decide) ?_
      exact lo_iret hx hb hr hlk hM hN hB.1.2.1 hw9 hS (by decide) (by decide) (⟨h19.symm, hu, h00, fun _ => hf1.trans (if_pos (hr1.symm.trans cB)).symm⟩) dL_edit_37
    · skip
      refine lv_lconst (v := 1) hx hb dL_edit_15 rfl ?_
      refine lv_goto (tgt := 20) hx hb dL_edit_16 (by decide) ?_
      refine lo_last hF hB.2.2.1 hw9 hM hN hB.2.1.2 hS dL_edit_20 (fun H locs f1 hf1 hw9 hM hS => ?_)
      refine lv_goto (tgt := 36) hx hb dL_edit_21 (by decide) ?_
      refine lv_iconst (v := 0) hx hb dL_edit_36 (by decide) ?_
      exact lo_iret hx hb hr hlk hM hN hB.1.2.1 hw9 hS (by decide) (by decide) (⟨h19.symm, hu, h00, fun _ => hf1.trans (if_neg (fun q => cB (hr1.trans q))).symm⟩) dL_edit_37
set_option maxHeartbeats 4000000 in
set_option maxRecDepth 100000 in
theorem m_L_judge (l : Launch) (hflag : l.stackTraces = false) (G : k_G) (Z : Nat → Prop) (w : Nat) (cJ : ClassId) (ad : k_Ad) (mm : q_Mem) (f9 : Nat → Int64) (x y z : Int32) (ref : Prop) [Decidable ref] (hz : z = if ref then 1 else 0) (hI : Inv mm) (hK1 : sp_K mm < 512) : lo_C l yL_judge cL_judge 6 [(0, 12, 15, 13), (0, 12, 19, 17)] 8 136 4 19 G Z w cJ ad (k_C G ad mm) f9 [.ref (ad 0 0), .int x, .int y, .int z, .ref w] (lo_P G ad Int32.toInt64 (sp_judge mm x y ref)) := by
  refine lo_of (by decide) (Nat.le_of_ble_eq_true rfl) ?_
  intro p e s m args below meth c hx hb hr hF hlk htab hB ls hl
  have hl : lv_has ls 6 [(0, .ref (ad 0 0)), (1, .int x), (2, .int y), (3, .int z), (4, .ref w)] := hl
  refine lv_aload hx hb dL_judge_0 (lv_at hl 4 rfl) ?_
  refine lv_iconst (v := 0) hx hb dL_judge_2 (by decide) ?_
  refine lv_aload_n hx hb dL_judge_3 rfl (lv_at hl 0 rfl) ?_
  refine lv_iload_n hx hb dL_judge_4 rfl (lv_at hl 1 rfl) ?_
  refine lv_iload_n hx hb dL_judge_5 rfl (lv_at hl 2 rfl) ?_
  refine lv_iload_n hx hb dL_judge_6 rfl (lv_at hl 3 rfl) ?_
  refine lo_iV (C := RX4) (A0 := lo_A Z w) (fr := 7) (lo := 111) (mc1 := 4) (ms1 := 19) (As := [.int x, .int y, .int z]) (rest := [.int 0, .ref w]) hF (m_X4_judge l hflag G Z ad mm x y z ref hz hI hK1) ke_X4_judge wd_l_L_23 (by decide) hB.1 (g_recv hB.1.2.1 (hB.1.1.1 0 0 _ rfl) rfl) rfl hl.1 rfl (Nat.le_of_ble_eq_true rfl) dL_judge_7 (by decide) (fun q h => Or.inl h) ?_ ?_
  · intro E ce q9 H locs hX hM hN hS hfr hce hcv hcl
    obtain ⟨v, hv, hres, hE⟩ := hX
    have h19 : (sp_judge mm x y ref).2 19 0 = v := by rw [hres]; show up2 mm 19 0 v 19 0 = v; exact up2_s
    have hkc : k_C G ad mm = k_C G ad (sp_judge mm x y ref).2 := by rw [hres]; rfl
    have hw9 := hB.2.1.1.kept (hfr _ hB.2.1.1.lt hB.2.1.2)
    rcases hv with rfl | rfl | ⟨rfl, hv⟩
    · skip
      obtain rfl : E = k_IOB := hE.trans (by decide)
      refine lo_catch hF hB.1.2.2.1 [] ⟨0, 12, 15, 13⟩ [⟨0, 12, 19, 17⟩] htab (fun z hz => absurd hz List.not_mem_nil) (by decide) (by decide) wd_k_L_13 lo_c1 hce hcv hcl ?_
      refine lv_astore (lv' := [(5, .ref q9), (0, .ref (ad 0 0)), (1, .int x), (2, .int y), (3, .int z), (4, .ref w)]) hx hb dL_judge_15 hl (by decide) rfl (fun ls hl => ?_)
      refine lv_iconst (v := 1) hx hb dL_judge_17 (by decide) ?_
      exact lo_iret hx hb hr hlk hM hN hB.1.2.1 hw9 hS (by decide) (by decide) (⟨h19.symm, hkc, rfl, fun q => absurd q (by decide)⟩) dL_judge_18
    · skip
      obtain rfl : E = k_ISE := hE.trans (by decide)
      refine lo_catch hF hB.1.2.2.1 [⟨0, 12, 15, 13⟩] ⟨0, 12, 19, 17⟩ [] htab (fun z hz => by rcases List.mem_singleton.mp hz with rfl; exact ⟨by decide, _, wd_k_L_13, hB.2.2.2.2.1⟩) (by decide) (by decide) wd_k_L_17 lo_c3 hce hcv hcl ?_
      refine lv_astore (lv' := [(5, .ref q9), (0, .ref (ad 0 0)), (1, .int x), (2, .int y), (3, .int z), (4, .ref w)]) hx hb dL_judge_19 hl (by decide) rfl (fun ls hl => ?_)
      refine lv_iconst (v := 2) hx hb dL_judge_21 (by decide) ?_
      exact lo_iret hx hb hr hlk hM hN hB.1.2.1 hw9 hS (by decide) (by decide) (⟨h19.symm, hkc, rfl, fun q => absurd q (by decide)⟩) dL_judge_22
    · skip
      exact absurd hv (by decide)
  · intro r u H locs hp hM hN hS hfr
    obtain ⟨ad1, ct1⟩ := u
    obtain ⟨hu, hr1, h19, h00⟩ := hp
    replace hu : ct1 = k_C G ad1 (sp_judge mm x y ref).2 := hu
    replace h00 : ad1 0 0 = ad 0 0 := h00
    replace hM : k_H G ad1 ct1 H := hM
    replace hN : k_N Z ad1 ct1 := hN
    have hw9 := hB.2.1.1.kept (hfr _ hB.2.1.1.lt hB.2.1.2)
    refine lv_i2l (v := Int32.toInt64 r) hx hb dL_judge_10 rfl ?_
    refine lo_last hF hB.2.2.1 hw9 hM hN hB.2.1.2 hS dL_judge_11 (fun H locs f1 hf1 hw9 hM hS => ?_)
    refine lv_goto (tgt := 23) hx hb dL_judge_12 (by decide) ?_
    refine lv_iconst (v := 0) hx hb dL_judge_23 (by decide) ?_
    exact lo_iret hx hb hr hlk hM hN hB.1.2.1 hw9 hS (by decide) (by decide) (⟨h19.symm, hu, h00, fun _ => hf1.trans (by rw [hr1])⟩) dL_judge_24
set_option maxHeartbeats 4000000 in
set_option maxRecDepth 100000 in
theorem m_L_revert (l : Launch) (hflag : l.stackTraces = false) (G : k_G) (Z : Nat → Prop) (w : Nat) (cJ : ClassId) (ad : k_Ad) (mm : q_Mem) (f9 : Nat → Int64) (x y : Int32) (hI : Inv mm) (hK1 : sp_K mm < 512) : lo_C l yL_revert cL_revert 5 [(0, 10, 13, 13), (0, 10, 17, 17)] 8 137 4 19 G Z w cJ ad (k_C G ad mm) f9 [.ref (ad 0 0), .int x, .int y, .ref w] (lo_P G ad Int32.toInt64 (sp_rev mm x y)) := by
  refine lo_of (by decide) (Nat.le_of_ble_eq_true rfl) ?_
  intro p e s m args below meth c hx hb hr hF hlk htab hB ls hl
  have hl : lv_has ls 5 [(0, .ref (ad 0 0)), (1, .int x), (2, .int y), (3, .ref w)] := hl
  refine lv_aload_n hx hb dL_revert_0 rfl (lv_at hl 3 rfl) ?_
  refine lv_iconst (v := 0) hx hb dL_revert_1 (by decide) ?_
  refine lv_aload_n hx hb dL_revert_2 rfl (lv_at hl 0 rfl) ?_
  refine lv_iload_n hx hb dL_revert_3 rfl (lv_at hl 1 rfl) ?_
  refine lv_iload_n hx hb dL_revert_4 rfl (lv_at hl 2 rfl) ?_
  refine lo_iV (C := RX4) (A0 := lo_A Z w) (fr := 7) (lo := 111) (mc1 := 4) (ms1 := 19) (As := [.int x, .int y]) (rest := [.int 0, .ref w]) hF (m_X4_revert l hflag G Z ad mm x y hI hK1) ke_X4_revert wd_l_L_27 (by decide) hB.1 (g_recv hB.1.2.1 (hB.1.1.1 0 0 _ rfl) rfl) rfl hl.1 rfl (Nat.le_of_ble_eq_true rfl) dL_revert_5 (by decide) (fun q h => Or.inl h) ?_ ?_
  · intro E ce q9 H locs hX hM hN hS hfr hce hcv hcl
    obtain ⟨v, hv, hres, hE⟩ := hX
    have h19 : (sp_rev mm x y).2 19 0 = v := by rw [hres]; show up2 mm 19 0 v 19 0 = v; exact up2_s
    have hkc : k_C G ad mm = k_C G ad (sp_rev mm x y).2 := by rw [hres]; rfl
    have hw9 := hB.2.1.1.kept (hfr _ hB.2.1.1.lt hB.2.1.2)
    rcases hv with rfl | rfl | ⟨rfl, hv⟩
    · skip
      obtain rfl : E = k_IOB := hE.trans (by decide)
      refine lo_catch hF hB.1.2.2.1 [] ⟨0, 10, 13, 13⟩ [⟨0, 10, 17, 17⟩] htab (fun z hz => absurd hz List.not_mem_nil) (by decide) (by decide) wd_k_L_13 lo_c1 hce hcv hcl ?_
      refine lv_astore (lv' := [(4, .ref q9), (0, .ref (ad 0 0)), (1, .int x), (2, .int y), (3, .ref w)]) hx hb dL_revert_13 hl (by decide) rfl (fun ls hl => ?_)
      refine lv_iconst (v := 1) hx hb dL_revert_15 (by decide) ?_
      exact lo_iret hx hb hr hlk hM hN hB.1.2.1 hw9 hS (by decide) (by decide) (⟨h19.symm, hkc, rfl, fun q => absurd q (by decide)⟩) dL_revert_16
    · skip
      obtain rfl : E = k_ISE := hE.trans (by decide)
      refine lo_catch hF hB.1.2.2.1 [⟨0, 10, 13, 13⟩] ⟨0, 10, 17, 17⟩ [] htab (fun z hz => by rcases List.mem_singleton.mp hz with rfl; exact ⟨by decide, _, wd_k_L_13, hB.2.2.2.2.1⟩) (by decide) (by decide) wd_k_L_17 lo_c3 hce hcv hcl ?_
      refine lv_astore (lv' := [(4, .ref q9), (0, .ref (ad 0 0)), (1, .int x), (2, .int y), (3, .ref w)]) hx hb dL_revert_17 hl (by decide) rfl (fun ls hl => ?_)
      refine lv_iconst (v := 2) hx hb dL_revert_19 (by decide) ?_
      exact lo_iret hx hb hr hlk hM hN hB.1.2.1 hw9 hS (by decide) (by decide) (⟨h19.symm, hkc, rfl, fun q => absurd q (by decide)⟩) dL_revert_20
    · skip
      exact absurd hv (by decide)
  · intro r u H locs hp hM hN hS hfr
    obtain ⟨ad1, ct1⟩ := u
    obtain ⟨hu, hr1, h19, h00⟩ := hp
    replace hu : ct1 = k_C G ad1 (sp_rev mm x y).2 := hu
    replace h00 : ad1 0 0 = ad 0 0 := h00
    replace hM : k_H G ad1 ct1 H := hM
    replace hN : k_N Z ad1 ct1 := hN
    have hw9 := hB.2.1.1.kept (hfr _ hB.2.1.1.lt hB.2.1.2)
    refine lv_i2l (v := Int32.toInt64 r) hx hb dL_revert_8 rfl ?_
    refine lo_last hF hB.2.2.1 hw9 hM hN hB.2.1.2 hS dL_revert_9 (fun H locs f1 hf1 hw9 hM hS => ?_)
    refine lv_goto (tgt := 21) hx hb dL_revert_10 (by decide) ?_
    refine lv_iconst (v := 0) hx hb dL_revert_21 (by decide) ?_
    exact lo_iret hx hb hr hlk hM hN hB.1.2.1 hw9 hS (by decide) (by decide) (⟨h19.symm, hu, h00, fun _ => hf1.trans (by rw [hr1])⟩) dL_revert_22
set_option maxHeartbeats 4000000 in
set_option maxRecDepth 100000 in
theorem m_L_guard (l : Launch) (hflag : l.stackTraces = false) (G : k_G) (Z : Nat → Prop) (w : Nat) (cJ : ClassId) (ad : k_Ad) (mm : q_Mem) (f9 : Nat → Int64) (x y : Int32) (hI : Inv mm) : lo_C l yL_guard cL_guard 5 [(0, 10, 13, 13), (0, 10, 17, 15)] 8 135 2 12 G Z w cJ ad (k_C G ad mm) f9 [.ref (ad 0 0), .int x, .int y, .ref w] (lo_P G ad Int32.toInt64 (sp_guard mm x y)) := by
  refine lo_of (by decide) (Nat.le_of_ble_eq_true rfl) ?_
  intro p e s m args below meth c hx hb hr hF hlk htab hB ls hl
  have hl : lv_has ls 5 [(0, .ref (ad 0 0)), (1, .int x), (2, .int y), (3, .ref w)] := hl
  refine lv_aload_n hx hb dL_guard_0 rfl (lv_at hl 3 rfl) ?_
  refine lv_iconst (v := 0) hx hb dL_guard_1 (by decide) ?_
  refine lv_aload_n hx hb dL_guard_2 rfl (lv_at hl 0 rfl) ?_
  refine lv_iload_n hx hb dL_guard_3 rfl (lv_at hl 1 rfl) ?_
  refine lv_iload_n hx hb dL_guard_4 rfl (lv_at hl 2 rfl) ?_
  refine lo_iV (C := RX4) (A0 := lo_A Z w) (fr := 7) (lo := 111) (mc1 := 2) (ms1 := 12) (As := [.int x, .int y]) (rest := [.int 0, .ref w]) hF (m_X4_guard l hflag G Z ad mm x y hI) ke_X4_guard wd_l_L_31 (by decide) hB.1 (g_recv hB.1.2.1 (hB.1.1.1 0 0 _ rfl) rfl) rfl hl.1 rfl (Nat.le_of_ble_eq_true rfl) dL_guard_5 (by decide) (fun q h => Or.inl h) ?_ ?_
  · intro E ce q9 H locs hX hM hN hS hfr hce hcv hcl
    obtain ⟨v, hv, hres, hE⟩ := hX
    have h19 : (sp_guard mm x y).2 19 0 = v := by rw [hres]; show up2 mm 19 0 v 19 0 = v; exact up2_s
    have hkc : k_C G ad mm = k_C G ad (sp_guard mm x y).2 := by rw [hres]; rfl
    have hw9 := hB.2.1.1.kept (hfr _ hB.2.1.1.lt hB.2.1.2)
    rcases hv with rfl | rfl | ⟨rfl, hv⟩
    · skip
      obtain rfl : E = k_IOB := hE.trans (by decide)
      refine lo_catch hF hB.1.2.2.1 [] ⟨0, 10, 13, 13⟩ [⟨0, 10, 17, 15⟩] htab (fun z hz => absurd hz List.not_mem_nil) (by decide) (by decide) wd_k_L_13 lo_c1 hce hcv hcl ?_
      refine lv_astore (lv' := [(4, .ref q9), (0, .ref (ad 0 0)), (1, .int x), (2, .int y), (3, .ref w)]) hx hb dL_guard_13 hl (by decide) rfl (fun ls hl => ?_)
      refine lv_iconst (v := 1) hx hb dL_guard_15 (by decide) ?_
      exact lo_iret hx hb hr hlk hM hN hB.1.2.1 hw9 hS (by decide) (by decide) (⟨h19.symm, hkc, rfl, fun q => absurd q (by decide)⟩) dL_guard_16
    · skip
      obtain rfl : E = k_IAE := hE.trans (by decide)
      refine lo_catch hF hB.1.2.2.1 [⟨0, 10, 13, 13⟩] ⟨0, 10, 17, 15⟩ [] htab (fun z hz => by rcases List.mem_singleton.mp hz with rfl; exact ⟨by decide, _, wd_k_L_13, hB.2.2.2.1⟩) (by decide) (by decide) wd_k_L_15 lo_c2 hce hcv hcl ?_
      refine lv_astore (lv' := [(4, .ref q9), (0, .ref (ad 0 0)), (1, .int x), (2, .int y), (3, .ref w)]) hx hb dL_guard_17 hl (by decide) rfl (fun ls hl => ?_)
      refine lv_iconst (v := 2) hx hb dL_guard_19 (by decide) ?_
      exact lo_iret hx hb hr hlk hM hN hB.1.2.1 hw9 hS (by decide) (by decide) (⟨h19.symm, hkc, rfl, fun q => absurd q (by decide)⟩) dL_guard_20
    · skip
      exact absurd h19 (cd_guard)
  · intro r u H locs hp hM hN hS hfr
    obtain ⟨ad1, ct1⟩ := u
    obtain ⟨hu, hr1, h19, h00⟩ := hp
    replace hu : ct1 = k_C G ad1 (sp_guard mm x y).2 := hu
    replace h00 : ad1 0 0 = ad 0 0 := h00
    replace hM : k_H G ad1 ct1 H := hM
    replace hN : k_N Z ad1 ct1 := hN
    have hw9 := hB.2.1.1.kept (hfr _ hB.2.1.1.lt hB.2.1.2)
    refine lv_i2l (v := Int32.toInt64 r) hx hb dL_guard_8 rfl ?_
    refine lo_last hF hB.2.2.1 hw9 hM hN hB.2.1.2 hS dL_guard_9 (fun H locs f1 hf1 hw9 hM hS => ?_)
    refine lv_goto (tgt := 21) hx hb dL_guard_10 (by decide) ?_
    refine lv_iconst (v := 0) hx hb dL_guard_21 (by decide) ?_
    exact lo_iret hx hb hr hlk hM hN hB.1.2.1 hw9 hS (by decide) (by decide) (⟨h19.symm, hu, h00, fun _ => hf1.trans (by rw [hr1])⟩) dL_guard_22
set_option maxHeartbeats 4000000 in
set_option maxRecDepth 100000 in
theorem m_L_trust (l : Launch) (hflag : l.stackTraces = false) (G : k_G) (Z : Nat → Prop) (w : Nat) (cJ : ClassId) (ad : k_Ad) (mm : q_Mem) (f9 : Nat → Int64) (x : Int32)  : lo_C l yL_trust cL_trust 4 [(0, 9, 12, 13)] 8 131 1 6 G Z w cJ ad (k_C G ad mm) f9 [.ref (ad 0 0), .int x, .ref w] (lo_P G ad Int32.toInt64 (sp_trust mm x)) := by
  refine lo_of (by decide) (Nat.le_of_ble_eq_true rfl) ?_
  intro p e s m args below meth c hx hb hr hF hlk htab hB ls hl
  have hl : lv_has ls 4 [(0, .ref (ad 0 0)), (1, .int x), (2, .ref w)] := hl
  refine lv_aload_n hx hb dL_trust_0 rfl (lv_at hl 2 rfl) ?_
  refine lv_iconst (v := 0) hx hb dL_trust_1 (by decide) ?_
  refine lv_aload_n hx hb dL_trust_2 rfl (lv_at hl 0 rfl) ?_
  refine lv_iload_n hx hb dL_trust_3 rfl (lv_at hl 1 rfl) ?_
  refine lo_iV (C := RX4) (A0 := lo_A Z w) (fr := 7) (lo := 110) (mc1 := 1) (ms1 := 6) (As := [.int x]) (rest := [.int 0, .ref w]) hF (m_X4_trust l hflag G Z ad mm x) ke_X4_trust wd_l_L_34 (by decide) hB.1 (g_recv hB.1.2.1 (hB.1.1.1 0 0 _ rfl) rfl) rfl hl.1 rfl (Nat.le_of_ble_eq_true rfl) dL_trust_4 (by decide) (fun q h => Or.inl h) ?_ ?_
  · intro E ce q9 H locs hX hM hN hS hfr hce hcv hcl
    obtain ⟨v, hv, hres, hE⟩ := hX
    have h19 : (sp_trust mm x).2 19 0 = v := by rw [hres]; show up2 mm 19 0 v 19 0 = v; exact up2_s
    have hkc : k_C G ad mm = k_C G ad (sp_trust mm x).2 := by rw [hres]; rfl
    have hw9 := hB.2.1.1.kept (hfr _ hB.2.1.1.lt hB.2.1.2)
    rcases hv with rfl | rfl | ⟨rfl, hv⟩
    · skip
      obtain rfl : E = k_IOB := hE.trans (by decide)
      refine lo_catch hF hB.1.2.2.1 [] ⟨0, 9, 12, 13⟩ [] htab (fun z hz => absurd hz List.not_mem_nil) (by decide) (by decide) wd_k_L_13 lo_c1 hce hcv hcl ?_
      refine lv_astore_n (lv' := [(3, .ref q9), (0, .ref (ad 0 0)), (1, .int x), (2, .ref w)]) hx hb dL_trust_12 rfl hl (by decide) rfl (fun ls hl => ?_)
      refine lv_iconst (v := 1) hx hb dL_trust_13 (by decide) ?_
      exact lo_iret hx hb hr hlk hM hN hB.1.2.1 hw9 hS (by decide) (by decide) (⟨h19.symm, hkc, rfl, fun q => absurd q (by decide)⟩) dL_trust_14
    · skip
      exact (cd_x cd_trust h19 (by decide) (by decide)).elim
    · skip
      exact (cd_x cd_trust h19 (by decide) (by decide)).elim
  · intro r u H locs hp hM hN hS hfr
    obtain ⟨ad1, ct1⟩ := u
    obtain ⟨hu, hr1, h19, h00⟩ := hp
    replace hu : ct1 = k_C G ad1 (sp_trust mm x).2 := hu
    replace h00 : ad1 0 0 = ad 0 0 := h00
    replace hM : k_H G ad1 ct1 H := hM
    replace hN : k_N Z ad1 ct1 := hN
    have hw9 := hB.2.1.1.kept (hfr _ hB.2.1.1.lt hB.2.1.2)
    refine lv_i2l (v := Int32.toInt64 r) hx hb dL_trust_7 rfl ?_
    refine lo_last hF hB.2.2.1 hw9 hM hN hB.2.1.2 hS dL_trust_8 (fun H locs f1 hf1 hw9 hM hS => ?_)
    refine lv_goto (tgt := 15) hx hb dL_trust_9 (by decide) ?_
    refine lv_iconst (v := 0) hx hb dL_trust_15 (by decide) ?_
    exact lo_iret hx hb hr hlk hM hN hB.1.2.1 hw9 hS (by decide) (by decide) (⟨h19.symm, hu, h00, fun _ => hf1.trans (by rw [hr1])⟩) dL_trust_16
set_option maxHeartbeats 4000000 in
set_option maxRecDepth 100000 in
theorem m_L_versions (l : Launch) (hflag : l.stackTraces = false) (G : k_G) (Z : Nat → Prop) (w : Nat) (cJ : ClassId) (ad : k_Ad) (mm : q_Mem) (f9 : Nat → Int64) (x : Int32) (hI : Inv mm) : lo_C l yL_versions cL_versions 4 [(0, 9, 12, 13)] 8 132 1 6 G Z w cJ ad (k_C G ad mm) f9 [.ref (ad 0 0), .int x, .ref w] (lo_P G ad Int32.toInt64 (sp_ofway 7 mm x)) := by
  refine lo_of (by decide) (Nat.le_of_ble_eq_true rfl) ?_
  intro p e s m args below meth c hx hb hr hF hlk htab hB ls hl
  have hl : lv_has ls 4 [(0, .ref (ad 0 0)), (1, .int x), (2, .ref w)] := hl
  refine lv_aload_n hx hb dL_versions_0 rfl (lv_at hl 2 rfl) ?_
  refine lv_iconst (v := 0) hx hb dL_versions_1 (by decide) ?_
  refine lv_aload_n hx hb dL_versions_2 rfl (lv_at hl 0 rfl) ?_
  refine lv_iload_n hx hb dL_versions_3 rfl (lv_at hl 1 rfl) ?_
  refine lo_iV (C := RX4) (A0 := lo_A Z w) (fr := 7) (lo := 111) (mc1 := 1) (ms1 := 6) (As := [.int x]) (rest := [.int 0, .ref w]) hF (m_X4_versions l hflag G Z ad mm x hI) ke_X4_versions wd_l_L_38 (by decide) hB.1 (g_recv hB.1.2.1 (hB.1.1.1 0 0 _ rfl) rfl) rfl hl.1 rfl (Nat.le_of_ble_eq_true rfl) dL_versions_4 (by decide) (fun q h => Or.inl h) ?_ ?_
  · intro E ce q9 H locs hX hM hN hS hfr hce hcv hcl
    obtain ⟨v, hv, hres, hE⟩ := hX
    have h19 : (sp_ofway 7 mm x).2 19 0 = v := by rw [hres]; show up2 mm 19 0 v 19 0 = v; exact up2_s
    have hkc : k_C G ad mm = k_C G ad (sp_ofway 7 mm x).2 := by rw [hres]; rfl
    have hw9 := hB.2.1.1.kept (hfr _ hB.2.1.1.lt hB.2.1.2)
    rcases hv with rfl | rfl | ⟨rfl, hv⟩
    · skip
      obtain rfl : E = k_IOB := hE.trans (by decide)
      refine lo_catch hF hB.1.2.2.1 [] ⟨0, 9, 12, 13⟩ [] htab (fun z hz => absurd hz List.not_mem_nil) (by decide) (by decide) wd_k_L_13 lo_c1 hce hcv hcl ?_
      refine lv_astore_n (lv' := [(3, .ref q9), (0, .ref (ad 0 0)), (1, .int x), (2, .ref w)]) hx hb dL_versions_12 rfl hl (by decide) rfl (fun ls hl => ?_)
      refine lv_iconst (v := 1) hx hb dL_versions_13 (by decide) ?_
      exact lo_iret hx hb hr hlk hM hN hB.1.2.1 hw9 hS (by decide) (by decide) (⟨h19.symm, hkc, rfl, fun q => absurd q (by decide)⟩) dL_versions_14
    · skip
      exact (cd_x cd_ofway h19 (by decide) (by decide)).elim
    · skip
      exact (cd_x cd_ofway h19 (by decide) (by decide)).elim
  · intro r u H locs hp hM hN hS hfr
    obtain ⟨ad1, ct1⟩ := u
    obtain ⟨hu, hr1, h19, h00⟩ := hp
    replace hu : ct1 = k_C G ad1 (sp_ofway 7 mm x).2 := hu
    replace h00 : ad1 0 0 = ad 0 0 := h00
    replace hM : k_H G ad1 ct1 H := hM
    replace hN : k_N Z ad1 ct1 := hN
    have hw9 := hB.2.1.1.kept (hfr _ hB.2.1.1.lt hB.2.1.2)
    refine lv_i2l (v := Int32.toInt64 r) hx hb dL_versions_7 rfl ?_
    refine lo_last hF hB.2.2.1 hw9 hM hN hB.2.1.2 hS dL_versions_8 (fun H locs f1 hf1 hw9 hM hS => ?_)
    refine lv_goto (tgt := 15) hx hb dL_versions_9 (by decide) ?_
    refine lv_iconst (v := 0) hx hb dL_versions_15 (by decide) ?_
    exact lo_iret hx hb hr hlk hM hN hB.1.2.1 hw9 hS (by decide) (by decide) (⟨h19.symm, hu, h00, fun _ => hf1.trans (by rw [hr1])⟩) dL_versions_16
set_option maxHeartbeats 4000000 in
set_option maxRecDepth 100000 in
theorem m_L_version (l : Launch) (hflag : l.stackTraces = false) (G : k_G) (Z : Nat → Prop) (w : Nat) (cJ : ClassId) (ad : k_Ad) (mm : q_Mem) (f9 : Nat → Int64) (x y : Int32) (hI : Inv mm) : lo_C l yL_version cL_version 5 [(0, 10, 13, 13)] 8 134 2 12 G Z w cJ ad (k_C G ad mm) f9 [.ref (ad 0 0), .int x, .int y, .ref w] (lo_P G ad Int32.toInt64 (sp_ver mm x y)) := by
  refine lo_of (by decide) (Nat.le_of_ble_eq_true rfl) ?_
  intro p e s m args below meth c hx hb hr hF hlk htab hB ls hl
  have hl : lv_has ls 5 [(0, .ref (ad 0 0)), (1, .int x), (2, .int y), (3, .ref w)] := hl
  refine lv_aload_n hx hb dL_version_0 rfl (lv_at hl 3 rfl) ?_
  refine lv_iconst (v := 0) hx hb dL_version_1 (by decide) ?_
  refine lv_aload_n hx hb dL_version_2 rfl (lv_at hl 0 rfl) ?_
  refine lv_iload_n hx hb dL_version_3 rfl (lv_at hl 1 rfl) ?_
  refine lv_iload_n hx hb dL_version_4 rfl (lv_at hl 2 rfl) ?_
  refine lo_iV (C := RX4) (A0 := lo_A Z w) (fr := 7) (lo := 112) (mc1 := 2) (ms1 := 12) (As := [.int x, .int y]) (rest := [.int 0, .ref w]) hF (m_X4_version l hflag G Z ad mm x y hI) ke_X4_version wd_l_L_41 (by decide) hB.1 (g_recv hB.1.2.1 (hB.1.1.1 0 0 _ rfl) rfl) rfl hl.1 rfl (Nat.le_of_ble_eq_true rfl) dL_version_5 (by decide) (fun q h => Or.inl h) ?_ ?_
  · intro E ce q9 H locs hX hM hN hS hfr hce hcv hcl
    obtain ⟨v, hv, hres, hE⟩ := hX
    have h19 : (sp_ver mm x y).2 19 0 = v := by rw [hres]; show up2 mm 19 0 v 19 0 = v; exact up2_s
    have hkc : k_C G ad mm = k_C G ad (sp_ver mm x y).2 := by rw [hres]; rfl
    have hw9 := hB.2.1.1.kept (hfr _ hB.2.1.1.lt hB.2.1.2)
    rcases hv with rfl | rfl | ⟨rfl, hv⟩
    · skip
      obtain rfl : E = k_IOB := hE.trans (by decide)
      refine lo_catch hF hB.1.2.2.1 [] ⟨0, 10, 13, 13⟩ [] htab (fun z hz => absurd hz List.not_mem_nil) (by decide) (by decide) wd_k_L_13 lo_c1 hce hcv hcl ?_
      refine lv_astore (lv' := [(4, .ref q9), (0, .ref (ad 0 0)), (1, .int x), (2, .int y), (3, .ref w)]) hx hb dL_version_13 hl (by decide) rfl (fun ls hl => ?_)
      refine lv_iconst (v := 1) hx hb dL_version_15 (by decide) ?_
      exact lo_iret hx hb hr hlk hM hN hB.1.2.1 hw9 hS (by decide) (by decide) (⟨h19.symm, hkc, rfl, fun q => absurd q (by decide)⟩) dL_version_16
    · skip
      exact (cd_x cd_ver h19 (by decide) (by decide)).elim
    · skip
      exact (cd_x cd_ver h19 (by decide) (by decide)).elim
  · intro r u H locs hp hM hN hS hfr
    obtain ⟨ad1, ct1⟩ := u
    obtain ⟨hu, hr1, h19, h00⟩ := hp
    replace hu : ct1 = k_C G ad1 (sp_ver mm x y).2 := hu
    replace h00 : ad1 0 0 = ad 0 0 := h00
    replace hM : k_H G ad1 ct1 H := hM
    replace hN : k_N Z ad1 ct1 := hN
    have hw9 := hB.2.1.1.kept (hfr _ hB.2.1.1.lt hB.2.1.2)
    refine lv_i2l (v := Int32.toInt64 r) hx hb dL_version_8 rfl ?_
    refine lo_last hF hB.2.2.1 hw9 hM hN hB.2.1.2 hS dL_version_9 (fun H locs f1 hf1 hw9 hM hS => ?_)
    refine lv_goto (tgt := 17) hx hb dL_version_10 (by decide) ?_
    refine lv_iconst (v := 0) hx hb dL_version_17 (by decide) ?_
    exact lo_iret hx hb hr hlk hM hN hB.1.2.1 hw9 hS (by decide) (by decide) (⟨h19.symm, hu, h00, fun _ => hf1.trans (by rw [hr1])⟩) dL_version_18
set_option maxHeartbeats 4000000 in
set_option maxRecDepth 100000 in
theorem m_L_stampOf (l : Launch) (hflag : l.stackTraces = false) (G : k_G) (Z : Nat → Prop) (w : Nat) (cJ : ClassId) (ad : k_Ad) (mm : q_Mem) (f9 : Nat → Int64) (x y : Int32) (hI : Inv mm) : lo_C l yL_stampOf cL_stampOf 5 [(0, 10, 13, 13)] 8 134 2 12 G Z w cJ ad (k_C G ad mm) f9 [.ref (ad 0 0), .int x, .int y, .ref w] (lo_P G ad Int32.toInt64 (sp_sta mm x y)) := by
  refine lo_of (by decide) (Nat.le_of_ble_eq_true rfl) ?_
  intro p e s m args below meth c hx hb hr hF hlk htab hB ls hl
  have hl : lv_has ls 5 [(0, .ref (ad 0 0)), (1, .int x), (2, .int y), (3, .ref w)] := hl
  refine lv_aload_n hx hb dL_stampOf_0 rfl (lv_at hl 3 rfl) ?_
  refine lv_iconst (v := 0) hx hb dL_stampOf_1 (by decide) ?_
  refine lv_aload_n hx hb dL_stampOf_2 rfl (lv_at hl 0 rfl) ?_
  refine lv_iload_n hx hb dL_stampOf_3 rfl (lv_at hl 1 rfl) ?_
  refine lv_iload_n hx hb dL_stampOf_4 rfl (lv_at hl 2 rfl) ?_
  refine lo_iV (C := RX4) (A0 := lo_A Z w) (fr := 7) (lo := 112) (mc1 := 2) (ms1 := 12) (As := [.int x, .int y]) (rest := [.int 0, .ref w]) hF (m_X4_stampOf l hflag G Z ad mm x y hI) ke_X4_stampOf wd_l_L_44 (by decide) hB.1 (g_recv hB.1.2.1 (hB.1.1.1 0 0 _ rfl) rfl) rfl hl.1 rfl (Nat.le_of_ble_eq_true rfl) dL_stampOf_5 (by decide) (fun q h => Or.inl h) ?_ ?_
  · intro E ce q9 H locs hX hM hN hS hfr hce hcv hcl
    obtain ⟨v, hv, hres, hE⟩ := hX
    have h19 : (sp_sta mm x y).2 19 0 = v := by rw [hres]; show up2 mm 19 0 v 19 0 = v; exact up2_s
    have hkc : k_C G ad mm = k_C G ad (sp_sta mm x y).2 := by rw [hres]; rfl
    have hw9 := hB.2.1.1.kept (hfr _ hB.2.1.1.lt hB.2.1.2)
    rcases hv with rfl | rfl | ⟨rfl, hv⟩
    · skip
      obtain rfl : E = k_IOB := hE.trans (by decide)
      refine lo_catch hF hB.1.2.2.1 [] ⟨0, 10, 13, 13⟩ [] htab (fun z hz => absurd hz List.not_mem_nil) (by decide) (by decide) wd_k_L_13 lo_c1 hce hcv hcl ?_
      refine lv_astore (lv' := [(4, .ref q9), (0, .ref (ad 0 0)), (1, .int x), (2, .int y), (3, .ref w)]) hx hb dL_stampOf_13 hl (by decide) rfl (fun ls hl => ?_)
      refine lv_iconst (v := 1) hx hb dL_stampOf_15 (by decide) ?_
      exact lo_iret hx hb hr hlk hM hN hB.1.2.1 hw9 hS (by decide) (by decide) (⟨h19.symm, hkc, rfl, fun q => absurd q (by decide)⟩) dL_stampOf_16
    · skip
      exact (cd_x cd_sta h19 (by decide) (by decide)).elim
    · skip
      exact (cd_x cd_sta h19 (by decide) (by decide)).elim
  · intro r u H locs hp hM hN hS hfr
    obtain ⟨ad1, ct1⟩ := u
    obtain ⟨hu, hr1, h19, h00⟩ := hp
    replace hu : ct1 = k_C G ad1 (sp_sta mm x y).2 := hu
    replace h00 : ad1 0 0 = ad 0 0 := h00
    replace hM : k_H G ad1 ct1 H := hM
    replace hN : k_N Z ad1 ct1 := hN
    have hw9 := hB.2.1.1.kept (hfr _ hB.2.1.1.lt hB.2.1.2)
    refine lv_i2l (v := Int32.toInt64 r) hx hb dL_stampOf_8 rfl ?_
    refine lo_last hF hB.2.2.1 hw9 hM hN hB.2.1.2 hS dL_stampOf_9 (fun H locs f1 hf1 hw9 hM hS => ?_)
    refine lv_goto (tgt := 17) hx hb dL_stampOf_10 (by decide) ?_
    refine lv_iconst (v := 0) hx hb dL_stampOf_17 (by decide) ?_
    exact lo_iret hx hb hr hlk hM hN hB.1.2.1 hw9 hS (by decide) (by decide) (⟨h19.symm, hu, h00, fun _ => hf1.trans (by rw [hr1])⟩) dL_stampOf_18
set_option maxHeartbeats 4000000 in
set_option maxRecDepth 100000 in
theorem m_L_waiting (l : Launch) (hflag : l.stackTraces = false) (G : k_G) (Z : Nat → Prop) (w : Nat) (cJ : ClassId) (ad : k_Ad) (mm : q_Mem) (f9 : Nat → Int64) (x : Int32) (hI : Inv mm) : lo_C l yL_waiting cL_waiting 4 [(0, 9, 12, 13)] 8 133 1 6 G Z w cJ ad (k_C G ad mm) f9 [.ref (ad 0 0), .int x, .ref w] (lo_P G ad Int32.toInt64 (sp_ofway 9 mm x)) := by
  refine lo_of (by decide) (Nat.le_of_ble_eq_true rfl) ?_
  intro p e s m args below meth c hx hb hr hF hlk htab hB ls hl
  have hl : lv_has ls 4 [(0, .ref (ad 0 0)), (1, .int x), (2, .ref w)] := hl
  refine lv_aload_n hx hb dL_waiting_0 rfl (lv_at hl 2 rfl) ?_
  refine lv_iconst (v := 0) hx hb dL_waiting_1 (by decide) ?_
  refine lv_aload_n hx hb dL_waiting_2 rfl (lv_at hl 0 rfl) ?_
  refine lv_iload_n hx hb dL_waiting_3 rfl (lv_at hl 1 rfl) ?_
  refine lo_iV (C := RX4) (A0 := lo_A Z w) (fr := 7) (lo := 111) (mc1 := 1) (ms1 := 6) (As := [.int x]) (rest := [.int 0, .ref w]) hF (m_X4_waiting l hflag G Z ad mm x hI) ke_X4_waiting wd_l_L_47 (by decide) hB.1 (g_recv hB.1.2.1 (hB.1.1.1 0 0 _ rfl) rfl) rfl hl.1 rfl (Nat.le_of_ble_eq_true rfl) dL_waiting_4 (by decide) (fun q h => Or.inl h) ?_ ?_
  · intro E ce q9 H locs hX hM hN hS hfr hce hcv hcl
    obtain ⟨v, hv, hres, hE⟩ := hX
    have h19 : (sp_ofway 9 mm x).2 19 0 = v := by rw [hres]; show up2 mm 19 0 v 19 0 = v; exact up2_s
    have hkc : k_C G ad mm = k_C G ad (sp_ofway 9 mm x).2 := by rw [hres]; rfl
    have hw9 := hB.2.1.1.kept (hfr _ hB.2.1.1.lt hB.2.1.2)
    rcases hv with rfl | rfl | ⟨rfl, hv⟩
    · skip
      obtain rfl : E = k_IOB := hE.trans (by decide)
      refine lo_catch hF hB.1.2.2.1 [] ⟨0, 9, 12, 13⟩ [] htab (fun z hz => absurd hz List.not_mem_nil) (by decide) (by decide) wd_k_L_13 lo_c1 hce hcv hcl ?_
      refine lv_astore_n (lv' := [(3, .ref q9), (0, .ref (ad 0 0)), (1, .int x), (2, .ref w)]) hx hb dL_waiting_12 rfl hl (by decide) rfl (fun ls hl => ?_)
      refine lv_iconst (v := 1) hx hb dL_waiting_13 (by decide) ?_
      exact lo_iret hx hb hr hlk hM hN hB.1.2.1 hw9 hS (by decide) (by decide) (⟨h19.symm, hkc, rfl, fun q => absurd q (by decide)⟩) dL_waiting_14
    · skip
      exact (cd_x cd_ofway h19 (by decide) (by decide)).elim
    · skip
      exact (cd_x cd_ofway h19 (by decide) (by decide)).elim
  · intro r u H locs hp hM hN hS hfr
    obtain ⟨ad1, ct1⟩ := u
    obtain ⟨hu, hr1, h19, h00⟩ := hp
    replace hu : ct1 = k_C G ad1 (sp_ofway 9 mm x).2 := hu
    replace h00 : ad1 0 0 = ad 0 0 := h00
    replace hM : k_H G ad1 ct1 H := hM
    replace hN : k_N Z ad1 ct1 := hN
    have hw9 := hB.2.1.1.kept (hfr _ hB.2.1.1.lt hB.2.1.2)
    refine lv_i2l (v := Int32.toInt64 r) hx hb dL_waiting_7 rfl ?_
    refine lo_last hF hB.2.2.1 hw9 hM hN hB.2.1.2 hS dL_waiting_8 (fun H locs f1 hf1 hw9 hM hS => ?_)
    refine lv_goto (tgt := 15) hx hb dL_waiting_9 (by decide) ?_
    refine lv_iconst (v := 0) hx hb dL_waiting_15 (by decide) ?_
    exact lo_iret hx hb hr hlk hM hN hB.1.2.1 hw9 hS (by decide) (by decide) (⟨h19.symm, hu, h00, fun _ => hf1.trans (by rw [hr1])⟩) dL_waiting_16
set_option maxHeartbeats 4000000 in
set_option maxRecDepth 100000 in
theorem m_L_draw (l : Launch) (hflag : l.stackTraces = false) (G : k_G) (Z : Nat → Prop) (w : Nat) (cJ : ClassId) (ad : k_Ad) (mm : q_Mem) (f9 : Nat → Int64) (z x y : Int32) (hI : Inv mm) : lo_C l yL_draw cL_draw 6 [(0, 12, 15, 13)] 9 158 3 19 G Z w cJ ad (k_C G ad mm) f9 [.ref (ad 0 0), .int z, .int x, .int y, .ref w] (lo_P G ad Int32.toInt64 (sp_draw mm z x y)) := by
  refine lo_of (by decide) (Nat.le_of_ble_eq_true rfl) ?_
  intro p e s m args below meth c hx hb hr hF hlk htab hB ls hl
  have hl : lv_has ls 6 [(0, .ref (ad 0 0)), (1, .int z), (2, .int x), (3, .int y), (4, .ref w)] := hl
  refine lv_aload hx hb dL_draw_0 (lv_at hl 4 rfl) ?_
  refine lv_iconst (v := 0) hx hb dL_draw_2 (by decide) ?_
  refine lv_aload_n hx hb dL_draw_3 rfl (lv_at hl 0 rfl) ?_
  refine lv_iload_n hx hb dL_draw_4 rfl (lv_at hl 1 rfl) ?_
  refine lv_iload_n hx hb dL_draw_5 rfl (lv_at hl 2 rfl) ?_
  refine lv_iload_n hx hb dL_draw_6 rfl (lv_at hl 3 rfl) ?_
  refine lo_iV (C := RX4) (A0 := lo_A Z w) (fr := 8) (lo := 133) (mc1 := 3) (ms1 := 19) (As := [.int z, .int x, .int y]) (rest := [.int 0, .ref w]) hF (m_X4_draw l hflag G Z ad mm z x y hI) ke_X4_draw wd_l_L_50 (by decide) hB.1 (g_recv hB.1.2.1 (hB.1.1.1 0 0 _ rfl) rfl) rfl hl.1 rfl (Nat.le_of_ble_eq_true rfl) dL_draw_7 (by decide) (fun q h => Or.inl h) ?_ ?_
  · intro E ce q9 H locs hX hM hN hS hfr hce hcv hcl
    obtain ⟨v, hv, hres, hE⟩ := hX
    have h19 : (sp_draw mm z x y).2 19 0 = v := by rw [hres]; show up2 mm 19 0 v 19 0 = v; exact up2_s
    have hkc : k_C G ad mm = k_C G ad (sp_draw mm z x y).2 := by rw [hres]; rfl
    have hw9 := hB.2.1.1.kept (hfr _ hB.2.1.1.lt hB.2.1.2)
    rcases hv with rfl | rfl | ⟨rfl, hv⟩
    · skip
      obtain rfl : E = k_IOB := hE.trans (by decide)
      refine lo_catch hF hB.1.2.2.1 [] ⟨0, 12, 15, 13⟩ [] htab (fun z hz => absurd hz List.not_mem_nil) (by decide) (by decide) wd_k_L_13 lo_c1 hce hcv hcl ?_
      refine lv_astore (lv' := [(5, .ref q9), (0, .ref (ad 0 0)), (1, .int z), (2, .int x), (3, .int y), (4, .ref w)]) hx hb dL_draw_15 hl (by decide) rfl (fun ls hl => ?_)
      refine lv_iconst (v := 1) hx hb dL_draw_17 (by decide) ?_
      exact lo_iret hx hb hr hlk hM hN hB.1.2.1 hw9 hS (by decide) (by decide) (⟨h19.symm, hkc, rfl, fun q => absurd q (by decide)⟩) dL_draw_18
    · skip
      exact (cd_x cd_draw h19 (by decide) (by decide)).elim
    · skip
      exact (cd_x cd_draw h19 (by decide) (by decide)).elim
  · intro r u H locs hp hM hN hS hfr
    obtain ⟨ad1, ct1⟩ := u
    obtain ⟨hu, hr1, h19, h00⟩ := hp
    replace hu : ct1 = k_C G ad1 (sp_draw mm z x y).2 := hu
    replace h00 : ad1 0 0 = ad 0 0 := h00
    replace hM : k_H G ad1 ct1 H := hM
    replace hN : k_N Z ad1 ct1 := hN
    have hw9 := hB.2.1.1.kept (hfr _ hB.2.1.1.lt hB.2.1.2)
    refine lv_i2l (v := Int32.toInt64 r) hx hb dL_draw_10 rfl ?_
    refine lo_last hF hB.2.2.1 hw9 hM hN hB.2.1.2 hS dL_draw_11 (fun H locs f1 hf1 hw9 hM hS => ?_)
    refine lv_goto (tgt := 19) hx hb dL_draw_12 (by decide) ?_
    refine lv_iconst (v := 0) hx hb dL_draw_19 (by decide) ?_
    exact lo_iret hx hb hr hlk hM hN hB.1.2.1 hw9 hS (by decide) (by decide) (⟨h19.symm, hu, h00, fun _ => hf1.trans (by rw [hr1])⟩) dL_draw_20
set_option maxHeartbeats 4000000 in
set_option maxRecDepth 100000 in
theorem m_L_picture (l : Launch) (hflag : l.stackTraces = false) (G : k_G) (Z : Nat → Prop) (w : Nat) (cJ : ClassId) (ad : k_Ad) (mm : q_Mem) (f9 : Nat → Int64) (z x y : Int32)  : lo_C l yL_picture cL_picture 6 [(0, 12, 15, 13), (0, 12, 19, 17)] 10 180 3 18 G Z w cJ ad (k_C G ad mm) f9 [.ref (ad 0 0), .int z, .int x, .int y, .ref w] (lo_P G ad Int32.toInt64 (sp_ptr mm z x y)) := by
  refine lo_of (by decide) (Nat.le_of_ble_eq_true rfl) ?_
  intro p e s m args below meth c hx hb hr hF hlk htab hB ls hl
  have hl : lv_has ls 6 [(0, .ref (ad 0 0)), (1, .int z), (2, .int x), (3, .int y), (4, .ref w)] := hl
  refine lv_aload hx hb dL_picture_0 (lv_at hl 4 rfl) ?_
  refine lv_iconst (v := 0) hx hb dL_picture_2 (by decide) ?_
  refine lv_aload_n hx hb dL_picture_3 rfl (lv_at hl 0 rfl) ?_
  refine lv_iload_n hx hb dL_picture_4 rfl (lv_at hl 1 rfl) ?_
  refine lv_iload_n hx hb dL_picture_5 rfl (lv_at hl 2 rfl) ?_
  refine lv_iload_n hx hb dL_picture_6 rfl (lv_at hl 3 rfl) ?_
  refine lo_iV (C := RX4) (A0 := lo_A Z w) (fr := 9) (lo := 157) (mc1 := 3) (ms1 := 18) (As := [.int z, .int x, .int y]) (rest := [.int 0, .ref w]) hF (m_X4_picture l hflag G Z ad mm z x y) ke_X4_picture wd_l_L_54 (by decide) hB.1 (g_recv hB.1.2.1 (hB.1.1.1 0 0 _ rfl) rfl) rfl hl.1 rfl (Nat.le_of_ble_eq_true rfl) dL_picture_7 (by decide) (fun q h => Or.inl h) ?_ ?_
  · intro E ce q9 H locs hX hM hN hS hfr hce hcv hcl
    obtain ⟨v, hv, hres, hE⟩ := hX
    have h19 : (sp_ptr mm z x y).2 19 0 = v := by rw [hres]; show up2 mm 19 0 v 19 0 = v; exact up2_s
    have hkc : k_C G ad mm = k_C G ad (sp_ptr mm z x y).2 := by rw [hres]; rfl
    have hw9 := hB.2.1.1.kept (hfr _ hB.2.1.1.lt hB.2.1.2)
    rcases hv with rfl | rfl | ⟨rfl, hv⟩
    · skip
      obtain rfl : E = k_IOB := hE.trans (by decide)
      refine lo_catch hF hB.1.2.2.1 [] ⟨0, 12, 15, 13⟩ [⟨0, 12, 19, 17⟩] htab (fun z hz => absurd hz List.not_mem_nil) (by decide) (by decide) wd_k_L_13 lo_c1 hce hcv hcl ?_
      refine lv_astore (lv' := [(5, .ref q9), (0, .ref (ad 0 0)), (1, .int z), (2, .int x), (3, .int y), (4, .ref w)]) hx hb dL_picture_15 hl (by decide) rfl (fun ls hl => ?_)
      refine lv_iconst (v := 1) hx hb dL_picture_17 (by decide) ?_
      exact lo_iret hx hb hr hlk hM hN hB.1.2.1 hw9 hS (by decide) (by decide) (⟨h19.symm, hkc, rfl, fun q => absurd q (by decide)⟩) dL_picture_18
    · skip
      obtain rfl : E = k_ISE := hE.trans (by decide)
      refine lo_catch hF hB.1.2.2.1 [⟨0, 12, 15, 13⟩] ⟨0, 12, 19, 17⟩ [] htab (fun z hz => by rcases List.mem_singleton.mp hz with rfl; exact ⟨by decide, _, wd_k_L_13, hB.2.2.2.2.1⟩) (by decide) (by decide) wd_k_L_17 lo_c3 hce hcv hcl ?_
      refine lv_astore (lv' := [(5, .ref q9), (0, .ref (ad 0 0)), (1, .int z), (2, .int x), (3, .int y), (4, .ref w)]) hx hb dL_picture_19 hl (by decide) rfl (fun ls hl => ?_)
      refine lv_iconst (v := 2) hx hb dL_picture_21 (by decide) ?_
      exact lo_iret hx hb hr hlk hM hN hB.1.2.1 hw9 hS (by decide) (by decide) (⟨h19.symm, hkc, rfl, fun q => absurd q (by decide)⟩) dL_picture_22
    · skip
      exact absurd hv (by decide)
  · intro r u H locs hp hM hN hS hfr
    obtain ⟨ad1, ct1⟩ := u
    obtain ⟨hu, hr1, h19, h00⟩ := hp
    replace hu : ct1 = k_C G ad1 (sp_ptr mm z x y).2 := hu
    replace h00 : ad1 0 0 = ad 0 0 := h00
    replace hM : k_H G ad1 ct1 H := hM
    replace hN : k_N Z ad1 ct1 := hN
    have hw9 := hB.2.1.1.kept (hfr _ hB.2.1.1.lt hB.2.1.2)
    refine lv_i2l (v := Int32.toInt64 r) hx hb dL_picture_10 rfl ?_
    refine lo_last hF hB.2.2.1 hw9 hM hN hB.2.1.2 hS dL_picture_11 (fun H locs f1 hf1 hw9 hM hS => ?_)
    refine lv_goto (tgt := 23) hx hb dL_picture_12 (by decide) ?_
    refine lv_iconst (v := 0) hx hb dL_picture_23 (by decide) ?_
    exact lo_iret hx hb hr hlk hM hN hB.1.2.1 hw9 hS (by decide) (by decide) (⟨h19.symm, hu, h00, fun _ => hf1.trans (by rw [hr1])⟩) dL_picture_24
set_option maxHeartbeats 4000000 in
set_option maxRecDepth 100000 in
theorem m_L_pictureAnew (l : Launch) (hflag : l.stackTraces = false) (G : k_G) (Z : Nat → Prop) (w : Nat) (cJ : ClassId) (ad : k_Ad) (mm : q_Mem) (f9 : Nat → Int64) (z x y : Int32) (hI : Inv mm) : lo_C l yL_pictureAnew cL_pictureAnew 6 [(0, 12, 15, 13), (0, 12, 19, 17)] 10 181 3 18 G Z w cJ ad (k_C G ad mm) f9 [.ref (ad 0 0), .int z, .int x, .int y, .ref w] (lo_P G ad Int32.toInt64 (sp_anew mm z x y)) := by
  refine lo_of (by decide) (Nat.le_of_ble_eq_true rfl) ?_
  intro p e s m args below meth c hx hb hr hF hlk htab hB ls hl
  have hl : lv_has ls 6 [(0, .ref (ad 0 0)), (1, .int z), (2, .int x), (3, .int y), (4, .ref w)] := hl
  refine lv_aload hx hb dL_pictureAnew_0 (lv_at hl 4 rfl) ?_
  refine lv_iconst (v := 0) hx hb dL_pictureAnew_2 (by decide) ?_
  refine lv_aload_n hx hb dL_pictureAnew_3 rfl (lv_at hl 0 rfl) ?_
  refine lv_iload_n hx hb dL_pictureAnew_4 rfl (lv_at hl 1 rfl) ?_
  refine lv_iload_n hx hb dL_pictureAnew_5 rfl (lv_at hl 2 rfl) ?_
  refine lv_iload_n hx hb dL_pictureAnew_6 rfl (lv_at hl 3 rfl) ?_
  refine lo_iV (C := RX4) (A0 := lo_A Z w) (fr := 9) (lo := 157) (mc1 := 3) (ms1 := 18) (As := [.int z, .int x, .int y]) (rest := [.int 0, .ref w]) hF (m_X4_pictureAnew l hflag G Z ad mm z x y hI) ke_X4_pictureAnew wd_l_L_57 (by decide) hB.1 (g_recv hB.1.2.1 (hB.1.1.1 0 0 _ rfl) rfl) rfl hl.1 rfl (Nat.le_of_ble_eq_true rfl) dL_pictureAnew_7 (by decide) (fun q h => Or.inl h) ?_ ?_
  · intro E ce q9 H locs hX hM hN hS hfr hce hcv hcl
    obtain ⟨v, hv, hres, hE⟩ := hX
    have h19 : (sp_anew mm z x y).2 19 0 = v := by rw [hres]; show up2 mm 19 0 v 19 0 = v; exact up2_s
    have hkc : k_C G ad mm = k_C G ad (sp_anew mm z x y).2 := by rw [hres]; rfl
    have hw9 := hB.2.1.1.kept (hfr _ hB.2.1.1.lt hB.2.1.2)
    rcases hv with rfl | rfl | ⟨rfl, hv⟩
    · skip
      obtain rfl : E = k_IOB := hE.trans (by decide)
      refine lo_catch hF hB.1.2.2.1 [] ⟨0, 12, 15, 13⟩ [⟨0, 12, 19, 17⟩] htab (fun z hz => absurd hz List.not_mem_nil) (by decide) (by decide) wd_k_L_13 lo_c1 hce hcv hcl ?_
      refine lv_astore (lv' := [(5, .ref q9), (0, .ref (ad 0 0)), (1, .int z), (2, .int x), (3, .int y), (4, .ref w)]) hx hb dL_pictureAnew_15 hl (by decide) rfl (fun ls hl => ?_)
      refine lv_iconst (v := 1) hx hb dL_pictureAnew_17 (by decide) ?_
      exact lo_iret hx hb hr hlk hM hN hB.1.2.1 hw9 hS (by decide) (by decide) (⟨h19.symm, hkc, rfl, fun q => absurd q (by decide)⟩) dL_pictureAnew_18
    · skip
      obtain rfl : E = k_ISE := hE.trans (by decide)
      refine lo_catch hF hB.1.2.2.1 [⟨0, 12, 15, 13⟩] ⟨0, 12, 19, 17⟩ [] htab (fun z hz => by rcases List.mem_singleton.mp hz with rfl; exact ⟨by decide, _, wd_k_L_13, hB.2.2.2.2.1⟩) (by decide) (by decide) wd_k_L_17 lo_c3 hce hcv hcl ?_
      refine lv_astore (lv' := [(5, .ref q9), (0, .ref (ad 0 0)), (1, .int z), (2, .int x), (3, .int y), (4, .ref w)]) hx hb dL_pictureAnew_19 hl (by decide) rfl (fun ls hl => ?_)
      refine lv_iconst (v := 2) hx hb dL_pictureAnew_21 (by decide) ?_
      exact lo_iret hx hb hr hlk hM hN hB.1.2.1 hw9 hS (by decide) (by decide) (⟨h19.symm, hkc, rfl, fun q => absurd q (by decide)⟩) dL_pictureAnew_22
    · skip
      exact absurd hv (by decide)
  · intro r u H locs hp hM hN hS hfr
    obtain ⟨ad1, ct1⟩ := u
    obtain ⟨hu, hr1, h19, h00⟩ := hp
    replace hu : ct1 = k_C G ad1 (sp_anew mm z x y).2 := hu
    replace h00 : ad1 0 0 = ad 0 0 := h00
    replace hM : k_H G ad1 ct1 H := hM
    replace hN : k_N Z ad1 ct1 := hN
    have hw9 := hB.2.1.1.kept (hfr _ hB.2.1.1.lt hB.2.1.2)
    refine lv_i2l (v := Int32.toInt64 r) hx hb dL_pictureAnew_10 rfl ?_
    refine lo_last hF hB.2.2.1 hw9 hM hN hB.2.1.2 hS dL_pictureAnew_11 (fun H locs f1 hf1 hw9 hM hS => ?_)
    refine lv_goto (tgt := 23) hx hb dL_pictureAnew_12 (by decide) ?_
    refine lv_iconst (v := 0) hx hb dL_pictureAnew_23 (by decide) ?_
    exact lo_iret hx hb hr hlk hM hN hB.1.2.1 hw9 hS (by decide) (by decide) (⟨h19.symm, hu, h00, fun _ => hf1.trans (by rw [hr1])⟩) dL_pictureAnew_24
set_option maxHeartbeats 4000000 in
set_option maxRecDepth 100000 in
theorem m_L_tileStamp (l : Launch) (hflag : l.stackTraces = false) (G : k_G) (Z : Nat → Prop) (w : Nat) (cJ : ClassId) (ad : k_Ad) (mm : q_Mem) (f9 : Nat → Int64) (z x y : Int32)  : lo_C l yL_tileStamp cL_tileStamp 6 [(0, 12, 15, 13)] 9 157 3 18 G Z w cJ ad (k_C G ad mm) f9 [.ref (ad 0 0), .int z, .int x, .int y, .ref w] (lo_P G ad Int32.toInt64 (sp_tst mm z x y)) := by
  refine lo_of (by decide) (Nat.le_of_ble_eq_true rfl) ?_
  intro p e s m args below meth c hx hb hr hF hlk htab hB ls hl
  have hl : lv_has ls 6 [(0, .ref (ad 0 0)), (1, .int z), (2, .int x), (3, .int y), (4, .ref w)] := hl
  refine lv_aload hx hb dL_tileStamp_0 (lv_at hl 4 rfl) ?_
  refine lv_iconst (v := 0) hx hb dL_tileStamp_2 (by decide) ?_
  refine lv_aload_n hx hb dL_tileStamp_3 rfl (lv_at hl 0 rfl) ?_
  refine lv_iload_n hx hb dL_tileStamp_4 rfl (lv_at hl 1 rfl) ?_
  refine lv_iload_n hx hb dL_tileStamp_5 rfl (lv_at hl 2 rfl) ?_
  refine lv_iload_n hx hb dL_tileStamp_6 rfl (lv_at hl 3 rfl) ?_
  refine lo_iV (C := RX4) (A0 := lo_A Z w) (fr := 8) (lo := 133) (mc1 := 3) (ms1 := 18) (As := [.int z, .int x, .int y]) (rest := [.int 0, .ref w]) hF (m_X4_tileStamp l hflag G Z ad mm z x y) ke_X4_tileStamp wd_l_L_60 (by decide) hB.1 (g_recv hB.1.2.1 (hB.1.1.1 0 0 _ rfl) rfl) rfl hl.1 rfl (Nat.le_of_ble_eq_true rfl) dL_tileStamp_7 (by decide) (fun q h => Or.inl h) ?_ ?_
  · intro E ce q9 H locs hX hM hN hS hfr hce hcv hcl
    obtain ⟨v, hv, hres, hE⟩ := hX
    have h19 : (sp_tst mm z x y).2 19 0 = v := by rw [hres]; show up2 mm 19 0 v 19 0 = v; exact up2_s
    have hkc : k_C G ad mm = k_C G ad (sp_tst mm z x y).2 := by rw [hres]; rfl
    have hw9 := hB.2.1.1.kept (hfr _ hB.2.1.1.lt hB.2.1.2)
    rcases hv with rfl | rfl | ⟨rfl, hv⟩
    · skip
      obtain rfl : E = k_IOB := hE.trans (by decide)
      refine lo_catch hF hB.1.2.2.1 [] ⟨0, 12, 15, 13⟩ [] htab (fun z hz => absurd hz List.not_mem_nil) (by decide) (by decide) wd_k_L_13 lo_c1 hce hcv hcl ?_
      refine lv_astore (lv' := [(5, .ref q9), (0, .ref (ad 0 0)), (1, .int z), (2, .int x), (3, .int y), (4, .ref w)]) hx hb dL_tileStamp_15 hl (by decide) rfl (fun ls hl => ?_)
      refine lv_iconst (v := 1) hx hb dL_tileStamp_17 (by decide) ?_
      exact lo_iret hx hb hr hlk hM hN hB.1.2.1 hw9 hS (by decide) (by decide) (⟨h19.symm, hkc, rfl, fun q => absurd q (by decide)⟩) dL_tileStamp_18
    · skip
      exact (cd_x cd_tst h19 (by decide) (by decide)).elim
    · skip
      exact (cd_x cd_tst h19 (by decide) (by decide)).elim
  · intro r u H locs hp hM hN hS hfr
    obtain ⟨ad1, ct1⟩ := u
    obtain ⟨hu, hr1, h19, h00⟩ := hp
    replace hu : ct1 = k_C G ad1 (sp_tst mm z x y).2 := hu
    replace h00 : ad1 0 0 = ad 0 0 := h00
    replace hM : k_H G ad1 ct1 H := hM
    replace hN : k_N Z ad1 ct1 := hN
    have hw9 := hB.2.1.1.kept (hfr _ hB.2.1.1.lt hB.2.1.2)
    refine lv_i2l (v := Int32.toInt64 r) hx hb dL_tileStamp_10 rfl ?_
    refine lo_last hF hB.2.2.1 hw9 hM hN hB.2.1.2 hS dL_tileStamp_11 (fun H locs f1 hf1 hw9 hM hS => ?_)
    refine lv_goto (tgt := 19) hx hb dL_tileStamp_12 (by decide) ?_
    refine lv_iconst (v := 0) hx hb dL_tileStamp_19 (by decide) ?_
    exact lo_iret hx hb hr hlk hM hN hB.1.2.1 hw9 hS (by decide) (by decide) (⟨h19.symm, hu, h00, fun _ => hf1.trans (by rw [hr1])⟩) dL_tileStamp_20
set_option maxHeartbeats 4000000 in
set_option maxRecDepth 100000 in
theorem m_L_isStale (l : Launch) (hflag : l.stackTraces = false) (G : k_G) (Z : Nat → Prop) (w : Nat) (cJ : ClassId) (ad : k_Ad) (mm : q_Mem) (f9 : Nat → Int64) (z x y : Int32) (hI : Inv mm) : lo_C l yL_isStale cL_isStale 6 [(0, 19, 22, 13)] 9 156 3 18 G Z w cJ ad (k_C G ad mm) f9 [.ref (ad 0 0), .int z, .int x, .int y, .ref w] (lo_P G ad (fun v => if v = 0 then (0 : Int64) else 1) (sp_isst mm z x y)) := by
  refine lo_of (by decide) (Nat.le_of_ble_eq_true rfl) ?_
  intro p e s m args below meth c hx hb hr hF hlk htab hB ls hl
  have hl : lv_has ls 6 [(0, .ref (ad 0 0)), (1, .int z), (2, .int x), (3, .int y), (4, .ref w)] := hl
  refine lv_aload hx hb dL_isStale_0 (lv_at hl 4 rfl) ?_
  refine lv_iconst (v := 0) hx hb dL_isStale_2 (by decide) ?_
  refine lv_aload_n hx hb dL_isStale_3 rfl (lv_at hl 0 rfl) ?_
  refine lv_iload_n hx hb dL_isStale_4 rfl (lv_at hl 1 rfl) ?_
  refine lv_iload_n hx hb dL_isStale_5 rfl (lv_at hl 2 rfl) ?_
  refine lv_iload_n hx hb dL_isStale_6 rfl (lv_at hl 3 rfl) ?_
  refine lo_iV (C := RX4) (A0 := lo_A Z w) (fr := 8) (lo := 133) (mc1 := 3) (ms1 := 18) (As := [.int z, .int x, .int y]) (rest := [.int 0, .ref w]) hF (m_X4_isStale l hflag G Z ad mm z x y hI) ke_X4_isStale wd_l_L_63 (by decide) hB.1 (g_recv hB.1.2.1 (hB.1.1.1 0 0 _ rfl) rfl) rfl hl.1 rfl (Nat.le_of_ble_eq_true rfl) dL_isStale_7 (by decide) (fun q h => Or.inl h) ?_ ?_
  · intro E ce q9 H locs hX hM hN hS hfr hce hcv hcl
    obtain ⟨v, hv, hres, hE⟩ := hX
    have h19 : (sp_isst mm z x y).2 19 0 = v := by rw [hres]; show up2 mm 19 0 v 19 0 = v; exact up2_s
    have hkc : k_C G ad mm = k_C G ad (sp_isst mm z x y).2 := by rw [hres]; rfl
    have hw9 := hB.2.1.1.kept (hfr _ hB.2.1.1.lt hB.2.1.2)
    rcases hv with rfl | rfl | ⟨rfl, hv⟩
    · skip
      obtain rfl : E = k_IOB := hE.trans (by decide)
      refine lo_catch hF hB.1.2.2.1 [] ⟨0, 19, 22, 13⟩ [] htab (fun z hz => absurd hz List.not_mem_nil) (by decide) (by decide) wd_k_L_13 lo_c1 hce hcv hcl ?_
      refine lv_astore (lv' := [(5, .ref q9), (0, .ref (ad 0 0)), (1, .int z), (2, .int x), (3, .int y), (4, .ref w)]) hx hb dL_isStale_22 hl (by decide) rfl (fun ls hl => ?_)
      refine lv_iconst (v := 1) hx hb dL_isStale_24 (by decide) ?_
      exact lo_iret hx hb hr hlk hM hN hB.1.2.1 hw9 hS (by decide) (by decide) (⟨h19.symm, hkc, rfl, fun q => absurd q (by decide)⟩) dL_isStale_25
    · skip
      exact (cd_x cd_isst h19 (by decide) (by decide)).elim
    · skip
      exact (cd_x cd_isst h19 (by decide) (by decide)).elim
  · intro r u H locs hp hM hN hS hfr
    obtain ⟨ad1, ct1⟩ := u
    obtain ⟨hu, hr1, h19, h00⟩ := hp
    replace hu : ct1 = k_C G ad1 (sp_isst mm z x y).2 := hu
    replace h00 : ad1 0 0 = ad 0 0 := h00
    replace hM : k_H G ad1 ct1 H := hM
    replace hN : k_N Z ad1 ct1 := hN
    have hw9 := hB.2.1.1.kept (hfr _ hB.2.1.1.lt hB.2.1.2)
    refine lv_if_eq (tgt := 17) hx hb dL_isStale_10 (by decide) (fun cB => ?_) (fun cB => ?_)
    · skip
      refine lv_lconst (v := 0) hx hb dL_isStale_17 rfl ?_
      refine lo_last hF hB.2.2.1 hw9 hM hN hB.2.1.2 hS dL_isStale_18 (fun H locs f1 hf1 hw9 hM hS => ?_)
      refine lv_goto (tgt := 26) hx hb dL_isStale_19 (by decide) ?_
      refine lv_iconst (v := 0) hx hb dL_isStale_26 (by decide) ?_
      exact lo_iret hx hb hr hlk hM hN hB.1.2.1 hw9 hS (by decide) (by decide) (⟨h19.symm, hu, h00, fun _ => hf1.trans (if_pos (hr1.symm.trans cB)).symm⟩) dL_isStale_27
    · skip
      refine lv_lconst (v := 1) hx hb dL_isStale_13 rfl ?_
      refine lv_goto (tgt := 18) hx hb dL_isStale_14 (by decide) ?_
      refine lo_last hF hB.2.2.1 hw9 hM hN hB.2.1.2 hS dL_isStale_18 (fun H locs f1 hf1 hw9 hM hS => ?_)
      refine lv_goto (tgt := 26) hx hb dL_isStale_19 (by decide) ?_
      refine lv_iconst (v := 0) hx hb dL_isStale_26 (by decide) ?_
      exact lo_iret hx hb hr hlk hM hN hB.1.2.1 hw9 hS (by decide) (by decide) (⟨h19.symm, hu, h00, fun _ => hf1.trans (if_neg (fun q => cB (hr1.trans q))).symm⟩) dL_isStale_27
set_option maxHeartbeats 4000000 in
set_option maxRecDepth 100000 in
theorem m_L_staleTiles (l : Launch) (hflag : l.stackTraces = false) (G : k_G) (Z : Nat → Prop) (w : Nat) (cJ : ClassId) (ad : k_Ad) (mm : q_Mem) (f9 : Nat → Int64) (z : Int32) (hI : Inv mm) : lo_C l yL_staleTiles cL_staleTiles 4 [(0, 9, 12, 13)] 8 135 1 6 G Z w cJ ad (k_C G ad mm) f9 [.ref (ad 0 0), .int z, .ref w] (lo_P G ad Int32.toInt64 (sp_stl mm z)) := by
  refine lo_of (by decide) (Nat.le_of_ble_eq_true rfl) ?_
  intro p e s m args below meth c hx hb hr hF hlk htab hB ls hl
  have hl : lv_has ls 4 [(0, .ref (ad 0 0)), (1, .int z), (2, .ref w)] := hl
  refine lv_aload_n hx hb dL_staleTiles_0 rfl (lv_at hl 2 rfl) ?_
  refine lv_iconst (v := 0) hx hb dL_staleTiles_1 (by decide) ?_
  refine lv_aload_n hx hb dL_staleTiles_2 rfl (lv_at hl 0 rfl) ?_
  refine lv_iload_n hx hb dL_staleTiles_3 rfl (lv_at hl 1 rfl) ?_
  refine lo_iV (C := RX4) (A0 := lo_A Z w) (fr := 7) (lo := 110) (mc1 := 1) (ms1 := 6) (As := [.int z]) (rest := [.int 0, .ref w]) hF (m_X4_staleTiles l hflag G Z ad mm z hI) ke_X4_staleTiles wd_l_L_67 (by decide) hB.1 (g_recv hB.1.2.1 (hB.1.1.1 0 0 _ rfl) rfl) rfl hl.1 rfl (Nat.le_of_ble_eq_true rfl) dL_staleTiles_4 (by decide) (fun q h => Or.inl h) ?_ ?_
  · intro E ce q9 H locs hX hM hN hS hfr hce hcv hcl
    obtain ⟨v, hv, hres, hE⟩ := hX
    have h19 : (sp_stl mm z).2 19 0 = v := by rw [hres]; show up2 mm 19 0 v 19 0 = v; exact up2_s
    have hkc : k_C G ad mm = k_C G ad (sp_stl mm z).2 := by rw [hres]; rfl
    have hw9 := hB.2.1.1.kept (hfr _ hB.2.1.1.lt hB.2.1.2)
    rcases hv with rfl | rfl | ⟨rfl, hv⟩
    · skip
      obtain rfl : E = k_IOB := hE.trans (by decide)
      refine lo_catch hF hB.1.2.2.1 [] ⟨0, 9, 12, 13⟩ [] htab (fun z hz => absurd hz List.not_mem_nil) (by decide) (by decide) wd_k_L_13 lo_c1 hce hcv hcl ?_
      refine lv_astore_n (lv' := [(3, .ref q9), (0, .ref (ad 0 0)), (1, .int z), (2, .ref w)]) hx hb dL_staleTiles_12 rfl hl (by decide) rfl (fun ls hl => ?_)
      refine lv_iconst (v := 1) hx hb dL_staleTiles_13 (by decide) ?_
      exact lo_iret hx hb hr hlk hM hN hB.1.2.1 hw9 hS (by decide) (by decide) (⟨h19.symm, hkc, rfl, fun q => absurd q (by decide)⟩) dL_staleTiles_14
    · skip
      exact (cd_x cd_stl h19 (by decide) (by decide)).elim
    · skip
      exact (cd_x cd_stl h19 (by decide) (by decide)).elim
  · intro r u H locs hp hM hN hS hfr
    obtain ⟨ad1, ct1⟩ := u
    obtain ⟨hu, hr1, h19, h00⟩ := hp
    replace hu : ct1 = k_C G ad1 (sp_stl mm z).2 := hu
    replace h00 : ad1 0 0 = ad 0 0 := h00
    replace hM : k_H G ad1 ct1 H := hM
    replace hN : k_N Z ad1 ct1 := hN
    have hw9 := hB.2.1.1.kept (hfr _ hB.2.1.1.lt hB.2.1.2)
    refine lv_i2l (v := Int32.toInt64 r) hx hb dL_staleTiles_7 rfl ?_
    refine lo_last hF hB.2.2.1 hw9 hM hN hB.2.1.2 hS dL_staleTiles_8 (fun H locs f1 hf1 hw9 hM hS => ?_)
    refine lv_goto (tgt := 15) hx hb dL_staleTiles_9 (by decide) ?_
    refine lv_iconst (v := 0) hx hb dL_staleTiles_15 (by decide) ?_
    exact lo_iret hx hb hr hlk hM hN hB.1.2.1 hw9 hS (by decide) (by decide) (⟨h19.symm, hu, h00, fun _ => hf1.trans (by rw [hr1])⟩) dL_staleTiles_16
set_option maxHeartbeats 4000000 in
set_option maxRecDepth 100000 in
theorem m_L_drive (l : Launch) (hflag : l.stackTraces = false) (G : k_G) (Z : Nat → Prop) (w : Nat) (cJ : ClassId) (ad : k_Ad) (mm : q_Mem) (f9 : Nat → Int64) (x y z : Int32) (hI : Inv mm) : lo_C l yL_drive cL_drive 6 [(0, 12, 15, 13)] 8 135 2 12 G Z w cJ ad (k_C G ad mm) f9 [.ref (ad 0 0), .int x, .int y, .int z, .ref w] (lo_P G ad Int32.toInt64 (sp_drive mm x y z)) := by
  refine lo_of (by decide) (Nat.le_of_ble_eq_true rfl) ?_
  intro p e s m args below meth c hx hb hr hF hlk htab hB ls hl
  have hl : lv_has ls 6 [(0, .ref (ad 0 0)), (1, .int x), (2, .int y), (3, .int z), (4, .ref w)] := hl
  refine lv_aload hx hb dL_drive_0 (lv_at hl 4 rfl) ?_
  refine lv_iconst (v := 0) hx hb dL_drive_2 (by decide) ?_
  refine lv_aload_n hx hb dL_drive_3 rfl (lv_at hl 0 rfl) ?_
  refine lv_iload_n hx hb dL_drive_4 rfl (lv_at hl 1 rfl) ?_
  refine lv_iload_n hx hb dL_drive_5 rfl (lv_at hl 2 rfl) ?_
  refine lv_iload_n hx hb dL_drive_6 rfl (lv_at hl 3 rfl) ?_
  refine lo_iV (C := RX4) (A0 := lo_A Z w) (fr := 7) (lo := 111) (mc1 := 2) (ms1 := 12) (As := [.int x, .int y, .int z]) (rest := [.int 0, .ref w]) hF (m_X4_drive l hflag G Z ad mm x y z hI) ke_X4_drive wd_l_L_70 (by decide) hB.1 (g_recv hB.1.2.1 (hB.1.1.1 0 0 _ rfl) rfl) rfl hl.1 rfl (Nat.le_of_ble_eq_true rfl) dL_drive_7 (by decide) (fun q h => Or.inl h) ?_ ?_
  · intro E ce q9 H locs hX hM hN hS hfr hce hcv hcl
    obtain ⟨v, hv, hres, hE⟩ := hX
    have h19 : (sp_drive mm x y z).2 19 0 = v := by rw [hres]; show up2 mm 19 0 v 19 0 = v; exact up2_s
    have hkc : k_C G ad mm = k_C G ad (sp_drive mm x y z).2 := by rw [hres]; rfl
    have hw9 := hB.2.1.1.kept (hfr _ hB.2.1.1.lt hB.2.1.2)
    rcases hv with rfl | rfl | ⟨rfl, hv⟩
    · skip
      obtain rfl : E = k_IOB := hE.trans (by decide)
      refine lo_catch hF hB.1.2.2.1 [] ⟨0, 12, 15, 13⟩ [] htab (fun z hz => absurd hz List.not_mem_nil) (by decide) (by decide) wd_k_L_13 lo_c1 hce hcv hcl ?_
      refine lv_astore (lv' := [(5, .ref q9), (0, .ref (ad 0 0)), (1, .int x), (2, .int y), (3, .int z), (4, .ref w)]) hx hb dL_drive_15 hl (by decide) rfl (fun ls hl => ?_)
      refine lv_iconst (v := 1) hx hb dL_drive_17 (by decide) ?_
      exact lo_iret hx hb hr hlk hM hN hB.1.2.1 hw9 hS (by decide) (by decide) (⟨h19.symm, hkc, rfl, fun q => absurd q (by decide)⟩) dL_drive_18
    · skip
      exact (cd_x cd_drive h19 (by decide) (by decide)).elim
    · skip
      exact (cd_x cd_drive h19 (by decide) (by decide)).elim
  · intro r u H locs hp hM hN hS hfr
    obtain ⟨ad1, ct1⟩ := u
    obtain ⟨hu, hr1, h19, h00⟩ := hp
    replace hu : ct1 = k_C G ad1 (sp_drive mm x y z).2 := hu
    replace h00 : ad1 0 0 = ad 0 0 := h00
    replace hM : k_H G ad1 ct1 H := hM
    replace hN : k_N Z ad1 ct1 := hN
    have hw9 := hB.2.1.1.kept (hfr _ hB.2.1.1.lt hB.2.1.2)
    refine lv_i2l (v := Int32.toInt64 r) hx hb dL_drive_10 rfl ?_
    refine lo_last hF hB.2.2.1 hw9 hM hN hB.2.1.2 hS dL_drive_11 (fun H locs f1 hf1 hw9 hM hS => ?_)
    refine lv_goto (tgt := 19) hx hb dL_drive_12 (by decide) ?_
    refine lv_iconst (v := 0) hx hb dL_drive_19 (by decide) ?_
    exact lo_iret hx hb hr hlk hM hN hB.1.2.1 hw9 hS (by decide) (by decide) (⟨h19.symm, hu, h00, fun _ => hf1.trans (by rw [hr1])⟩) dL_drive_20
set_option maxHeartbeats 4000000 in
set_option maxRecDepth 100000 in
theorem m_L_see (l : Launch) (hflag : l.stackTraces = false) (G : k_G) (Z : Nat → Prop) (w : Nat) (cJ : ClassId) (ad : k_Ad) (mm : q_Mem) (f9 : Nat → Int64) (x y z q : Int32) (hI : Inv mm) (hK1 : sp_K mm < 512) : lo_C l yL_see cL_see 7 [(0, 21, 24, 13), (0, 21, 28, 15), (0, 21, 32, 17)] 8 136 4 19 G Z w cJ ad (k_C G ad mm) f9 [.ref (ad 0 0), .int x, .int y, .int z, .int q, .ref w] (lo_P G ad (fun v => if v = 0 then (0 : Int64) else 1) (sp_see mm x y z q)) := by
  refine lo_of (by decide) (Nat.le_of_ble_eq_true rfl) ?_
  intro p e s m args below meth c hx hb hr hF hlk htab hB ls hl
  have hl : lv_has ls 7 [(0, .ref (ad 0 0)), (1, .int x), (2, .int y), (3, .int z), (4, .int q), (5, .ref w)] := hl
  refine lv_aload hx hb dL_see_0 (lv_at hl 5 rfl) ?_
  refine lv_iconst (v := 0) hx hb dL_see_2 (by decide) ?_
  refine lv_aload_n hx hb dL_see_3 rfl (lv_at hl 0 rfl) ?_
  refine lv_iload_n hx hb dL_see_4 rfl (lv_at hl 1 rfl) ?_
  refine lv_iload_n hx hb dL_see_5 rfl (lv_at hl 2 rfl) ?_
  refine lv_iload_n hx hb dL_see_6 rfl (lv_at hl 3 rfl) ?_
  refine lv_iload hx hb dL_see_7 (lv_at hl 4 rfl) ?_
  refine lo_iV (C := RX4) (A0 := lo_A Z w) (fr := 7) (lo := 111) (mc1 := 4) (ms1 := 19) (As := [.int x, .int y, .int z, .int q]) (rest := [.int 0, .ref w]) hF (m_X4_see l hflag G Z ad mm x y z q hI hK1) ke_X4_see wd_l_L_73 (by decide) hB.1 (g_recv hB.1.2.1 (hB.1.1.1 0 0 _ rfl) rfl) rfl hl.1 rfl (Nat.le_of_ble_eq_true rfl) dL_see_9 (by decide) (fun q h => Or.inl h) ?_ ?_
  · intro E ce q9 H locs hX hM hN hS hfr hce hcv hcl
    obtain ⟨v, hv, hres, hE⟩ := hX
    have h19 : (sp_see mm x y z q).2 19 0 = v := by rw [hres]; show up2 mm 19 0 v 19 0 = v; exact up2_s
    have hkc : k_C G ad mm = k_C G ad (sp_see mm x y z q).2 := by rw [hres]; rfl
    have hw9 := hB.2.1.1.kept (hfr _ hB.2.1.1.lt hB.2.1.2)
    rcases hv with rfl | rfl | ⟨rfl, hv⟩
    · skip
      obtain rfl : E = k_IOB := hE.trans (by decide)
      refine lo_catch hF hB.1.2.2.1 [] ⟨0, 21, 24, 13⟩ [⟨0, 21, 28, 15⟩, ⟨0, 21, 32, 17⟩] htab (fun z hz => absurd hz List.not_mem_nil) (by decide) (by decide) wd_k_L_13 lo_c1 hce hcv hcl ?_
      refine lv_astore (lv' := [(6, .ref q9), (0, .ref (ad 0 0)), (1, .int x), (2, .int y), (3, .int z), (4, .int q), (5, .ref w)]) hx hb dL_see_24 hl (by decide) rfl (fun ls hl => ?_)
      refine lv_iconst (v := 1) hx hb dL_see_26 (by decide) ?_
      exact lo_iret hx hb hr hlk hM hN hB.1.2.1 hw9 hS (by decide) (by decide) (⟨h19.symm, hkc, rfl, fun q => absurd q (by decide)⟩) dL_see_27
    · skip
      obtain rfl : E = k_IAE := hE.trans (by decide)
      refine lo_catch hF hB.1.2.2.1 [⟨0, 21, 24, 13⟩] ⟨0, 21, 28, 15⟩ [⟨0, 21, 32, 17⟩] htab (fun z hz => by rcases List.mem_singleton.mp hz with rfl; exact ⟨by decide, _, wd_k_L_13, hB.2.2.2.1⟩) (by decide) (by decide) wd_k_L_15 lo_c2 hce hcv hcl ?_
      refine lv_astore (lv' := [(6, .ref q9), (0, .ref (ad 0 0)), (1, .int x), (2, .int y), (3, .int z), (4, .int q), (5, .ref w)]) hx hb dL_see_28 hl (by decide) rfl (fun ls hl => ?_)
      refine lv_iconst (v := 2) hx hb dL_see_30 (by decide) ?_
      exact lo_iret hx hb hr hlk hM hN hB.1.2.1 hw9 hS (by decide) (by decide) (⟨h19.symm, hkc, rfl, fun q => absurd q (by decide)⟩) dL_see_31
    · skip
      obtain rfl : E = k_ISE := hE.trans (by decide)
      refine lo_catch hF hB.1.2.2.1 [⟨0, 21, 24, 13⟩, ⟨0, 21, 28, 15⟩] ⟨0, 21, 32, 17⟩ [] htab (fun z hz => by
        rcases List.mem_cons.mp hz with rfl | hz2
        · exact ⟨by decide, _, wd_k_L_13, hB.2.2.2.2.1⟩
        · rcases List.mem_singleton.mp hz2 with rfl; exact ⟨by decide, _, wd_k_L_15, hB.2.2.2.2.2⟩) (by decide) (by decide) wd_k_L_17 lo_c3 hce hcv hcl ?_
      refine lv_astore (lv' := [(6, .ref q9), (0, .ref (ad 0 0)), (1, .int x), (2, .int y), (3, .int z), (4, .int q), (5, .ref w)]) hx hb dL_see_32 hl (by decide) rfl (fun ls hl => ?_)
      refine lv_iconst (v := 3) hx hb dL_see_34 (by decide) ?_
      exact lo_iret hx hb hr hlk hM hN hB.1.2.1 hw9 hS (by decide) (by decide) (⟨h19.symm, hkc, rfl, fun q => absurd q (by decide)⟩) dL_see_35
  · intro r u H locs hp hM hN hS hfr
    obtain ⟨ad1, ct1⟩ := u
    obtain ⟨hu, hr1, h19, h00⟩ := hp
    replace hu : ct1 = k_C G ad1 (sp_see mm x y z q).2 := hu
    replace h00 : ad1 0 0 = ad 0 0 := h00
    replace hM : k_H G ad1 ct1 H := hM
    replace hN : k_N Z ad1 ct1 := hN
    have hw9 := hB.2.1.1.kept (hfr _ hB.2.1.1.lt hB.2.1.2)
    refine lv_if_eq (tgt := 19) hx hb dL_see_12 (by decide) (fun cB => ?_) (fun cB => ?_)
    · skip
      refine lv_lconst (v := 0) hx hb dL_see_19 rfl ?_
      refine lo_last hF hB.2.2.1 hw9 hM hN hB.2.1.2 hS dL_see_20 (fun H locs f1 hf1 hw9 hM hS => ?_)
      refine lv_goto (tgt := 36) hx hb dL_see_21 (by decide) ?_
      refine lv_iconst (v := 0) hx hb dL_see_36 (by decide) ?_
      exact lo_iret hx hb hr hlk hM hN hB.1.2.1 hw9 hS (by decide) (by decide) (⟨h19.symm, hu, h00, fun _ => hf1.trans (if_pos (hr1.symm.trans cB)).symm⟩) dL_see_37
    · skip
      refine lv_lconst (v := 1) hx hb dL_see_15 rfl ?_
      refine lv_goto (tgt := 20) hx hb dL_see_16 (by decide) ?_
      refine lo_last hF hB.2.2.1 hw9 hM hN hB.2.1.2 hS dL_see_20 (fun H locs f1 hf1 hw9 hM hS => ?_)
      refine lv_goto (tgt := 36) hx hb dL_see_21 (by decide) ?_
      refine lv_iconst (v := 0) hx hb dL_see_36 (by decide) ?_
      exact lo_iret hx hb hr hlk hM hN hB.1.2.1 hw9 hS (by decide) (by decide) (⟨h19.symm, hu, h00, fun _ => hf1.trans (if_neg (fun q => cB (hr1.trans q))).symm⟩) dL_see_37
set_option maxHeartbeats 4000000 in
set_option maxRecDepth 100000 in
theorem m_L_sightings (l : Launch) (hflag : l.stackTraces = false) (G : k_G) (Z : Nat → Prop) (w : Nat) (cJ : ClassId) (ad : k_Ad) (mm : q_Mem) (f9 : Nat → Int64) (x : Int32) (hI : Inv mm) : lo_C l yL_sightings cL_sightings 4 [(0, 9, 12, 13)] 8 132 1 6 G Z w cJ ad (k_C G ad mm) f9 [.ref (ad 0 0), .int x, .ref w] (lo_P G ad Int32.toInt64 (sp_sgt mm x)) := by
  refine lo_of (by decide) (Nat.le_of_ble_eq_true rfl) ?_
  intro p e s m args below meth c hx hb hr hF hlk htab hB ls hl
  have hl : lv_has ls 4 [(0, .ref (ad 0 0)), (1, .int x), (2, .ref w)] := hl
  refine lv_aload_n hx hb dL_sightings_0 rfl (lv_at hl 2 rfl) ?_
  refine lv_iconst (v := 0) hx hb dL_sightings_1 (by decide) ?_
  refine lv_aload_n hx hb dL_sightings_2 rfl (lv_at hl 0 rfl) ?_
  refine lv_iload_n hx hb dL_sightings_3 rfl (lv_at hl 1 rfl) ?_
  refine lo_iV (C := RX4) (A0 := lo_A Z w) (fr := 7) (lo := 111) (mc1 := 1) (ms1 := 6) (As := [.int x]) (rest := [.int 0, .ref w]) hF (m_X4_sightings l hflag G Z ad mm x hI) ke_X4_sightings wd_l_L_76 (by decide) hB.1 (g_recv hB.1.2.1 (hB.1.1.1 0 0 _ rfl) rfl) rfl hl.1 rfl (Nat.le_of_ble_eq_true rfl) dL_sightings_4 (by decide) (fun q h => Or.inl h) ?_ ?_
  · intro E ce q9 H locs hX hM hN hS hfr hce hcv hcl
    obtain ⟨v, hv, hres, hE⟩ := hX
    have h19 : (sp_sgt mm x).2 19 0 = v := by rw [hres]; show up2 mm 19 0 v 19 0 = v; exact up2_s
    have hkc : k_C G ad mm = k_C G ad (sp_sgt mm x).2 := by rw [hres]; rfl
    have hw9 := hB.2.1.1.kept (hfr _ hB.2.1.1.lt hB.2.1.2)
    rcases hv with rfl | rfl | ⟨rfl, hv⟩
    · skip
      obtain rfl : E = k_IOB := hE.trans (by decide)
      refine lo_catch hF hB.1.2.2.1 [] ⟨0, 9, 12, 13⟩ [] htab (fun z hz => absurd hz List.not_mem_nil) (by decide) (by decide) wd_k_L_13 lo_c1 hce hcv hcl ?_
      refine lv_astore_n (lv' := [(3, .ref q9), (0, .ref (ad 0 0)), (1, .int x), (2, .ref w)]) hx hb dL_sightings_12 rfl hl (by decide) rfl (fun ls hl => ?_)
      refine lv_iconst (v := 1) hx hb dL_sightings_13 (by decide) ?_
      exact lo_iret hx hb hr hlk hM hN hB.1.2.1 hw9 hS (by decide) (by decide) (⟨h19.symm, hkc, rfl, fun q => absurd q (by decide)⟩) dL_sightings_14
    · skip
      exact (cd_x cd_sgt h19 (by decide) (by decide)).elim
    · skip
      exact (cd_x cd_sgt h19 (by decide) (by decide)).elim
  · intro r u H locs hp hM hN hS hfr
    obtain ⟨ad1, ct1⟩ := u
    obtain ⟨hu, hr1, h19, h00⟩ := hp
    replace hu : ct1 = k_C G ad1 (sp_sgt mm x).2 := hu
    replace h00 : ad1 0 0 = ad 0 0 := h00
    replace hM : k_H G ad1 ct1 H := hM
    replace hN : k_N Z ad1 ct1 := hN
    have hw9 := hB.2.1.1.kept (hfr _ hB.2.1.1.lt hB.2.1.2)
    refine lv_i2l (v := Int32.toInt64 r) hx hb dL_sightings_7 rfl ?_
    refine lo_last hF hB.2.2.1 hw9 hM hN hB.2.1.2 hS dL_sightings_8 (fun H locs f1 hf1 hw9 hM hS => ?_)
    refine lv_goto (tgt := 15) hx hb dL_sightings_9 (by decide) ?_
    refine lv_iconst (v := 0) hx hb dL_sightings_15 (by decide) ?_
    exact lo_iret hx hb hr hlk hM hN hB.1.2.1 hw9 hS (by decide) (by decide) (⟨h19.symm, hu, h00, fun _ => hf1.trans (by rw [hr1])⟩) dL_sightings_16
set_option maxHeartbeats 4000000 in
set_option maxRecDepth 100000 in
theorem m_L_dear (l : Launch) (hflag : l.stackTraces = false) (G : k_G) (Z : Nat → Prop) (w : Nat) (cJ : ClassId) (ad : k_Ad) (mm : q_Mem) (f9 : Nat → Int64) (x : Int32) (hI : Inv mm) : lo_C l yL_dear cL_dear 4 [(0, 9, 12, 13)] 8 132 1 6 G Z w cJ ad (k_C G ad mm) f9 [.ref (ad 0 0), .int x, .ref w] (lo_P G ad Int32.toInt64 (sp_dear mm x)) := by
  refine lo_of (by decide) (Nat.le_of_ble_eq_true rfl) ?_
  intro p e s m args below meth c hx hb hr hF hlk htab hB ls hl
  have hl : lv_has ls 4 [(0, .ref (ad 0 0)), (1, .int x), (2, .ref w)] := hl
  refine lv_aload_n hx hb dL_dear_0 rfl (lv_at hl 2 rfl) ?_
  refine lv_iconst (v := 0) hx hb dL_dear_1 (by decide) ?_
  refine lv_aload_n hx hb dL_dear_2 rfl (lv_at hl 0 rfl) ?_
  refine lv_iload_n hx hb dL_dear_3 rfl (lv_at hl 1 rfl) ?_
  refine lo_iV (C := RX4) (A0 := lo_A Z w) (fr := 7) (lo := 111) (mc1 := 1) (ms1 := 6) (As := [.int x]) (rest := [.int 0, .ref w]) hF (m_X4_dear l hflag G Z ad mm x hI) ke_X4_dear wd_l_L_79 (by decide) hB.1 (g_recv hB.1.2.1 (hB.1.1.1 0 0 _ rfl) rfl) rfl hl.1 rfl (Nat.le_of_ble_eq_true rfl) dL_dear_4 (by decide) (fun q h => Or.inl h) ?_ ?_
  · intro E ce q9 H locs hX hM hN hS hfr hce hcv hcl
    obtain ⟨v, hv, hres, hE⟩ := hX
    have h19 : (sp_dear mm x).2 19 0 = v := by rw [hres]; show up2 mm 19 0 v 19 0 = v; exact up2_s
    have hkc : k_C G ad mm = k_C G ad (sp_dear mm x).2 := by rw [hres]; rfl
    have hw9 := hB.2.1.1.kept (hfr _ hB.2.1.1.lt hB.2.1.2)
    rcases hv with rfl | rfl | ⟨rfl, hv⟩
    · skip
      obtain rfl : E = k_IOB := hE.trans (by decide)
      refine lo_catch hF hB.1.2.2.1 [] ⟨0, 9, 12, 13⟩ [] htab (fun z hz => absurd hz List.not_mem_nil) (by decide) (by decide) wd_k_L_13 lo_c1 hce hcv hcl ?_
      refine lv_astore_n (lv' := [(3, .ref q9), (0, .ref (ad 0 0)), (1, .int x), (2, .ref w)]) hx hb dL_dear_12 rfl hl (by decide) rfl (fun ls hl => ?_)
      refine lv_iconst (v := 1) hx hb dL_dear_13 (by decide) ?_
      exact lo_iret hx hb hr hlk hM hN hB.1.2.1 hw9 hS (by decide) (by decide) (⟨h19.symm, hkc, rfl, fun q => absurd q (by decide)⟩) dL_dear_14
    · skip
      exact (cd_x cd_dear h19 (by decide) (by decide)).elim
    · skip
      exact (cd_x cd_dear h19 (by decide) (by decide)).elim
  · intro r u H locs hp hM hN hS hfr
    obtain ⟨ad1, ct1⟩ := u
    obtain ⟨hu, hr1, h19, h00⟩ := hp
    replace hu : ct1 = k_C G ad1 (sp_dear mm x).2 := hu
    replace h00 : ad1 0 0 = ad 0 0 := h00
    replace hM : k_H G ad1 ct1 H := hM
    replace hN : k_N Z ad1 ct1 := hN
    have hw9 := hB.2.1.1.kept (hfr _ hB.2.1.1.lt hB.2.1.2)
    refine lv_i2l (v := Int32.toInt64 r) hx hb dL_dear_7 rfl ?_
    refine lo_last hF hB.2.2.1 hw9 hM hN hB.2.1.2 hS dL_dear_8 (fun H locs f1 hf1 hw9 hM hS => ?_)
    refine lv_goto (tgt := 15) hx hb dL_dear_9 (by decide) ?_
    refine lv_iconst (v := 0) hx hb dL_dear_15 (by decide) ?_
    exact lo_iret hx hb hr hlk hM hN hB.1.2.1 hw9 hS (by decide) (by decide) (⟨h19.symm, hu, h00, fun _ => hf1.trans (by rw [hr1])⟩) dL_dear_16
set_option maxHeartbeats 4000000 in
set_option maxRecDepth 100000 in
theorem m_L_target (l : Launch) (hflag : l.stackTraces = false) (G : k_G) (Z : Nat → Prop) (w : Nat) (cJ : ClassId) (ad : k_Ad) (mm : q_Mem) (f9 : Nat → Int64) (x : Int32) (hI : Inv mm) : lo_C l yL_target cL_target 4 [(0, 9, 12, 13)] 8 139 1 6 G Z w cJ ad (k_C G ad mm) f9 [.ref (ad 0 0), .int x, .ref w] (lo_P G ad Int32.toInt64 (sp_tar mm x)) := by
  refine lo_of (by decide) (Nat.le_of_ble_eq_true rfl) ?_
  intro p e s m args below meth c hx hb hr hF hlk htab hB ls hl
  have hl : lv_has ls 4 [(0, .ref (ad 0 0)), (1, .int x), (2, .ref w)] := hl
  refine lv_aload_n hx hb dL_target_0 rfl (lv_at hl 2 rfl) ?_
  refine lv_iconst (v := 0) hx hb dL_target_1 (by decide) ?_
  refine lv_aload_n hx hb dL_target_2 rfl (lv_at hl 0 rfl) ?_
  refine lv_iload_n hx hb dL_target_3 rfl (lv_at hl 1 rfl) ?_
  refine lo_iV (C := RX4) (A0 := lo_A Z w) (fr := 7) (lo := 118) (mc1 := 1) (ms1 := 6) (As := [.int x]) (rest := [.int 0, .ref w]) hF (m_X4_target l hflag G Z ad mm x hI) ke_X4_target wd_l_L_82 (by decide) hB.1 (g_recv hB.1.2.1 (hB.1.1.1 0 0 _ rfl) rfl) rfl hl.1 rfl (Nat.le_of_ble_eq_true rfl) dL_target_4 (by decide) (fun q h => Or.inl h) ?_ ?_
  · intro E ce q9 H locs hX hM hN hS hfr hce hcv hcl
    obtain ⟨v, hv, hres, hE⟩ := hX
    have h19 : (sp_tar mm x).2 19 0 = v := by rw [hres]; show up2 mm 19 0 v 19 0 = v; exact up2_s
    have hkc : k_C G ad mm = k_C G ad (sp_tar mm x).2 := by rw [hres]; rfl
    have hw9 := hB.2.1.1.kept (hfr _ hB.2.1.1.lt hB.2.1.2)
    rcases hv with rfl | rfl | ⟨rfl, hv⟩
    · skip
      obtain rfl : E = k_IOB := hE.trans (by decide)
      refine lo_catch hF hB.1.2.2.1 [] ⟨0, 9, 12, 13⟩ [] htab (fun z hz => absurd hz List.not_mem_nil) (by decide) (by decide) wd_k_L_13 lo_c1 hce hcv hcl ?_
      refine lv_astore_n (lv' := [(3, .ref q9), (0, .ref (ad 0 0)), (1, .int x), (2, .ref w)]) hx hb dL_target_12 rfl hl (by decide) rfl (fun ls hl => ?_)
      refine lv_iconst (v := 1) hx hb dL_target_13 (by decide) ?_
      exact lo_iret hx hb hr hlk hM hN hB.1.2.1 hw9 hS (by decide) (by decide) (⟨h19.symm, hkc, rfl, fun q => absurd q (by decide)⟩) dL_target_14
    · skip
      exact (cd_x cd_tar h19 (by decide) (by decide)).elim
    · skip
      exact (cd_x cd_tar h19 (by decide) (by decide)).elim
  · intro r u H locs hp hM hN hS hfr
    obtain ⟨ad1, ct1⟩ := u
    obtain ⟨hu, hr1, h19, h00⟩ := hp
    replace hu : ct1 = k_C G ad1 (sp_tar mm x).2 := hu
    replace h00 : ad1 0 0 = ad 0 0 := h00
    replace hM : k_H G ad1 ct1 H := hM
    replace hN : k_N Z ad1 ct1 := hN
    have hw9 := hB.2.1.1.kept (hfr _ hB.2.1.1.lt hB.2.1.2)
    refine lv_i2l (v := Int32.toInt64 r) hx hb dL_target_7 rfl ?_
    refine lo_last hF hB.2.2.1 hw9 hM hN hB.2.1.2 hS dL_target_8 (fun H locs f1 hf1 hw9 hM hS => ?_)
    refine lv_goto (tgt := 15) hx hb dL_target_9 (by decide) ?_
    refine lv_iconst (v := 0) hx hb dL_target_15 (by decide) ?_
    exact lo_iret hx hb hr hlk hM hN hB.1.2.1 hw9 hS (by decide) (by decide) (⟨h19.symm, hu, h00, fun _ => hf1.trans (by rw [hr1])⟩) dL_target_16
set_option maxHeartbeats 4000000 in
set_option maxRecDepth 100000 in
theorem m_L_send (l : Launch) (hflag : l.stackTraces = false) (G : k_G) (Z : Nat → Prop) (w : Nat) (cJ : ClassId) (ad : k_Ad) (mm : q_Mem) (f9 : Nat → Int64) (x : Int32) (hI : Inv mm) : lo_C l yL_send cL_send 4 [(0, 9, 12, 13), (0, 9, 15, 17)] 8 144 3 18 G Z w cJ ad (k_C G ad mm) f9 [.ref (ad 0 0), .int x, .ref w] (lo_P G ad Int32.toInt64 (sp_snd mm x)) := by
  refine lo_of (by decide) (Nat.le_of_ble_eq_true rfl) ?_
  intro p e s m args below meth c hx hb hr hF hlk htab hB ls hl
  have hl : lv_has ls 4 [(0, .ref (ad 0 0)), (1, .int x), (2, .ref w)] := hl
  refine lv_aload_n hx hb dL_send_0 rfl (lv_at hl 2 rfl) ?_
  refine lv_iconst (v := 0) hx hb dL_send_1 (by decide) ?_
  refine lv_aload_n hx hb dL_send_2 rfl (lv_at hl 0 rfl) ?_
  refine lv_iload_n hx hb dL_send_3 rfl (lv_at hl 1 rfl) ?_
  refine lo_iV (C := RX4) (A0 := lo_A Z w) (fr := 7) (lo := 118) (mc1 := 3) (ms1 := 18) (As := [.int x]) (rest := [.int 0, .ref w]) hF (m_X4_send l hflag G Z ad mm x hI) ke_X4_send wd_l_L_85 (by decide) hB.1 (g_recv hB.1.2.1 (hB.1.1.1 0 0 _ rfl) rfl) rfl hl.1 rfl (Nat.le_of_ble_eq_true rfl) dL_send_4 (by decide) (fun q h => Or.inl h) ?_ ?_
  · intro E ce q9 H locs hX hM hN hS hfr hce hcv hcl
    obtain ⟨v, hv, hres, hE⟩ := hX
    have h19 : (sp_snd mm x).2 19 0 = v := by rw [hres]; show up2 mm 19 0 v 19 0 = v; exact up2_s
    have hkc : k_C G ad mm = k_C G ad (sp_snd mm x).2 := by rw [hres]; rfl
    have hw9 := hB.2.1.1.kept (hfr _ hB.2.1.1.lt hB.2.1.2)
    rcases hv with rfl | rfl | ⟨rfl, hv⟩
    · skip
      obtain rfl : E = k_IOB := hE.trans (by decide)
      refine lo_catch hF hB.1.2.2.1 [] ⟨0, 9, 12, 13⟩ [⟨0, 9, 15, 17⟩] htab (fun z hz => absurd hz List.not_mem_nil) (by decide) (by decide) wd_k_L_13 lo_c1 hce hcv hcl ?_
      refine lv_astore_n (lv' := [(3, .ref q9), (0, .ref (ad 0 0)), (1, .int x), (2, .ref w)]) hx hb dL_send_12 rfl hl (by decide) rfl (fun ls hl => ?_)
      refine lv_iconst (v := 1) hx hb dL_send_13 (by decide) ?_
      exact lo_iret hx hb hr hlk hM hN hB.1.2.1 hw9 hS (by decide) (by decide) (⟨h19.symm, hkc, rfl, fun q => absurd q (by decide)⟩) dL_send_14
    · skip
      obtain rfl : E = k_ISE := hE.trans (by decide)
      refine lo_catch hF hB.1.2.2.1 [⟨0, 9, 12, 13⟩] ⟨0, 9, 15, 17⟩ [] htab (fun z hz => by rcases List.mem_singleton.mp hz with rfl; exact ⟨by decide, _, wd_k_L_13, hB.2.2.2.2.1⟩) (by decide) (by decide) wd_k_L_17 lo_c3 hce hcv hcl ?_
      refine lv_astore_n (lv' := [(3, .ref q9), (0, .ref (ad 0 0)), (1, .int x), (2, .ref w)]) hx hb dL_send_15 rfl hl (by decide) rfl (fun ls hl => ?_)
      refine lv_iconst (v := 2) hx hb dL_send_16 (by decide) ?_
      exact lo_iret hx hb hr hlk hM hN hB.1.2.1 hw9 hS (by decide) (by decide) (⟨h19.symm, hkc, rfl, fun q => absurd q (by decide)⟩) dL_send_17
    · skip
      exact absurd hv (by decide)
  · intro r u H locs hp hM hN hS hfr
    obtain ⟨ad1, ct1⟩ := u
    obtain ⟨hu, hr1, h19, h00⟩ := hp
    replace hu : ct1 = k_C G ad1 (sp_snd mm x).2 := hu
    replace h00 : ad1 0 0 = ad 0 0 := h00
    replace hM : k_H G ad1 ct1 H := hM
    replace hN : k_N Z ad1 ct1 := hN
    have hw9 := hB.2.1.1.kept (hfr _ hB.2.1.1.lt hB.2.1.2)
    refine lv_i2l (v := Int32.toInt64 r) hx hb dL_send_7 rfl ?_
    refine lo_last hF hB.2.2.1 hw9 hM hN hB.2.1.2 hS dL_send_8 (fun H locs f1 hf1 hw9 hM hS => ?_)
    refine lv_goto (tgt := 18) hx hb dL_send_9 (by decide) ?_
    refine lv_iconst (v := 0) hx hb dL_send_18 (by decide) ?_
    exact lo_iret hx hb hr hlk hM hN hB.1.2.1 hw9 hS (by decide) (by decide) (⟨h19.symm, hu, h00, fun _ => hf1.trans (by rw [hr1])⟩) dL_send_19
set_option maxHeartbeats 4000000 in
set_option maxRecDepth 100000 in
theorem m_L_carAt (l : Launch) (hflag : l.stackTraces = false) (G : k_G) (Z : Nat → Prop) (w : Nat) (cJ : ClassId) (ad : k_Ad) (mm : q_Mem) (f9 : Nat → Int64) (x : Int32)  : lo_C l yL_carAt cL_carAt 4 [(0, 9, 12, 13)] 8 131 1 6 G Z w cJ ad (k_C G ad mm) f9 [.ref (ad 0 0), .int x, .ref w] (lo_P G ad Int32.toInt64 (sp_cat mm x)) := by
  refine lo_of (by decide) (Nat.le_of_ble_eq_true rfl) ?_
  intro p e s m args below meth c hx hb hr hF hlk htab hB ls hl
  have hl : lv_has ls 4 [(0, .ref (ad 0 0)), (1, .int x), (2, .ref w)] := hl
  refine lv_aload_n hx hb dL_carAt_0 rfl (lv_at hl 2 rfl) ?_
  refine lv_iconst (v := 0) hx hb dL_carAt_1 (by decide) ?_
  refine lv_aload_n hx hb dL_carAt_2 rfl (lv_at hl 0 rfl) ?_
  refine lv_iload_n hx hb dL_carAt_3 rfl (lv_at hl 1 rfl) ?_
  refine lo_iV (C := RX4) (A0 := lo_A Z w) (fr := 7) (lo := 110) (mc1 := 1) (ms1 := 6) (As := [.int x]) (rest := [.int 0, .ref w]) hF (m_X4_carAt l hflag G Z ad mm x) ke_X4_carAt wd_l_L_88 (by decide) hB.1 (g_recv hB.1.2.1 (hB.1.1.1 0 0 _ rfl) rfl) rfl hl.1 rfl (Nat.le_of_ble_eq_true rfl) dL_carAt_4 (by decide) (fun q h => Or.inl h) ?_ ?_
  · intro E ce q9 H locs hX hM hN hS hfr hce hcv hcl
    obtain ⟨v, hv, hres, hE⟩ := hX
    have h19 : (sp_cat mm x).2 19 0 = v := by rw [hres]; show up2 mm 19 0 v 19 0 = v; exact up2_s
    have hkc : k_C G ad mm = k_C G ad (sp_cat mm x).2 := by rw [hres]; rfl
    have hw9 := hB.2.1.1.kept (hfr _ hB.2.1.1.lt hB.2.1.2)
    rcases hv with rfl | rfl | ⟨rfl, hv⟩
    · skip
      obtain rfl : E = k_IOB := hE.trans (by decide)
      refine lo_catch hF hB.1.2.2.1 [] ⟨0, 9, 12, 13⟩ [] htab (fun z hz => absurd hz List.not_mem_nil) (by decide) (by decide) wd_k_L_13 lo_c1 hce hcv hcl ?_
      refine lv_astore_n (lv' := [(3, .ref q9), (0, .ref (ad 0 0)), (1, .int x), (2, .ref w)]) hx hb dL_carAt_12 rfl hl (by decide) rfl (fun ls hl => ?_)
      refine lv_iconst (v := 1) hx hb dL_carAt_13 (by decide) ?_
      exact lo_iret hx hb hr hlk hM hN hB.1.2.1 hw9 hS (by decide) (by decide) (⟨h19.symm, hkc, rfl, fun q => absurd q (by decide)⟩) dL_carAt_14
    · skip
      exact (cd_x cd_cat h19 (by decide) (by decide)).elim
    · skip
      exact (cd_x cd_cat h19 (by decide) (by decide)).elim
  · intro r u H locs hp hM hN hS hfr
    obtain ⟨ad1, ct1⟩ := u
    obtain ⟨hu, hr1, h19, h00⟩ := hp
    replace hu : ct1 = k_C G ad1 (sp_cat mm x).2 := hu
    replace h00 : ad1 0 0 = ad 0 0 := h00
    replace hM : k_H G ad1 ct1 H := hM
    replace hN : k_N Z ad1 ct1 := hN
    have hw9 := hB.2.1.1.kept (hfr _ hB.2.1.1.lt hB.2.1.2)
    refine lv_i2l (v := Int32.toInt64 r) hx hb dL_carAt_7 rfl ?_
    refine lo_last hF hB.2.2.1 hw9 hM hN hB.2.1.2 hS dL_carAt_8 (fun H locs f1 hf1 hw9 hM hS => ?_)
    refine lv_goto (tgt := 15) hx hb dL_carAt_9 (by decide) ?_
    refine lv_iconst (v := 0) hx hb dL_carAt_15 (by decide) ?_
    exact lo_iret hx hb hr hlk hM hN hB.1.2.1 hw9 hS (by decide) (by decide) (⟨h19.symm, hu, h00, fun _ => hf1.trans (by rw [hr1])⟩) dL_carAt_16
