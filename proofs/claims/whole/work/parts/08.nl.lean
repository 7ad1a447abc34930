set_option maxRecDepth 20000 in
theorem ggL_addWay_X4_addWay : GoodIn wsL_addWay wsX4_addWay := goodIn_ca (goodIn_ca (goodIn_ca (goodIn_r _ [8, 9, 10, 11, 12, 13, 14, 15, 16, 17, 18, 19, 20, 21, 7, 22, 23, 24, 25, 26, 27, 28, 29, 30, 31, 32, 33, 34, 35, 36, 37, 38, 39, 40, 41, 42, 43, 44, 45, 46, 47, 48, 49, 50, 51, 52, 53, 54, 55, 56, 57, 58, 59, 60, 61, 62, 63, 64, 65, 66, 67, 68, 69, 70, 71, 72, 73, 74, 75, 76, 77, 78, 79, 80, 81, 82, 83, 84, 85, 86, 87, 88, 89, 90, 91, 92, 93, 94, 95, 96, 97, 98, 99, 100, 101, 102, 103, 104, 105, 106, 107, 108, 109, 110, 111, 112, 113, 114, 115, 116, 117, 118, 119, 120, 121, 122, 123, 124, 125, 126, 127, 128, 129, 130, 131, 132, 133, 134, 135, 136, 137, 138, 139, 140, 141, 142, 143, 144, 145, 146, 147, 148, 149, 150, 151, 152, 153, 154, 155, 156, 157, 158, 159, 160, 161, 162] (by decide +kernel) (by decide +kernel)) (goodIn_sub (fun _ h => List.mem_cons_of_mem _ (List.mem_append_left _ (List.mem_append_left _ (List.mem_append_right _ h)))) (by decide +kernel))) (goodIn_sub (fun _ h => List.mem_cons_of_mem _ (List.mem_append_left _ (List.mem_append_right _ h))) (by decide +kernel))) (goodIn_sub (fun _ h => List.mem_cons_of_mem _ (List.mem_append_right _ h)) (by decide +kernel))
set_option maxRecDepth 20000 in
theorem gL_addWay_X4_addWay : GoodIn wsL_addWay (wsV RL 7 RX4 yX4_addWay wsX4_addWay) := goodIn_app (goodIn_of _ (by decide +kernel)) ggL_addWay_X4_addWay
theorem dL_addWay_0 : decode cL_addWay 0 = .ok (.aload 6, 2) := by decide +kernel
theorem dL_addWay_2 : decode cL_addWay 2 = .ok (.iconst 0, 1) := by decide +kernel
theorem dL_addWay_3 : decode cL_addWay 3 = .ok (.aload_n 0, 1) := by decide +kernel
theorem dL_addWay_4 : decode cL_addWay 4 = .ok (.iload_n 1, 1) := by decide +kernel
theorem dL_addWay_5 : decode cL_addWay 5 = .ok (.iload_n 2, 1) := by decide +kernel
theorem dL_addWay_6 : decode cL_addWay 6 = .ok (.iload_n 3, 1) := by decide +kernel
theorem dL_addWay_7 : decode cL_addWay 7 = .ok (.iload 4, 2) := by decide +kernel
theorem dL_addWay_9 : decode cL_addWay 9 = .ok (.iload 5, 2) := by decide +kernel
theorem dL_addWay_11 : decode cL_addWay 11 = .ok (.invokevirtual 7, 3) := by decide +kernel
theorem dL_addWay_14 : decode cL_addWay 14 = .ok (.i2l, 1) := by decide +kernel
theorem dL_addWay_15 : decode cL_addWay 15 = .ok (.lastore, 1) := by decide +kernel
theorem dL_addWay_16 : decode cL_addWay 16 = .ok (.goto 15, 3) := by decide +kernel
theorem dL_addWay_19 : decode cL_addWay 19 = .ok (.astore 7, 2) := by decide +kernel
theorem dL_addWay_21 : decode cL_addWay 21 = .ok (.iconst 1, 1) := by decide +kernel
theorem dL_addWay_22 : decode cL_addWay 22 = .ok (.ireturn, 1) := by decide +kernel
theorem dL_addWay_23 : decode cL_addWay 23 = .ok (.astore 7, 2) := by decide +kernel
theorem dL_addWay_25 : decode cL_addWay 25 = .ok (.iconst 2, 1) := by decide +kernel
theorem dL_addWay_26 : decode cL_addWay 26 = .ok (.ireturn, 1) := by decide +kernel
theorem dL_addWay_27 : decode cL_addWay 27 = .ok (.astore 7, 2) := by decide +kernel
theorem dL_addWay_29 : decode cL_addWay 29 = .ok (.iconst 3, 1) := by decide +kernel
theorem dL_addWay_30 : decode cL_addWay 30 = .ok (.ireturn, 1) := by decide +kernel
theorem dL_addWay_31 : decode cL_addWay 31 = .ok (.iconst 0, 1) := by decide +kernel
theorem dL_addWay_32 : decode cL_addWay 32 = .ok (.ireturn, 1) := by decide +kernel
set_option maxRecDepth 20000 in
theorem ggL_edit_X4_edit : GoodIn wsL_edit wsX4_edit := goodIn_ca (goodIn_ca (goodIn_ca (goodIn_r _ [8, 9, 10, 11, 12, 13, 14, 15, 16, 17, 18, 19, 20, 7, 21, 22, 23, 24, 25, 26, 27, 28, 29, 30, 31, 32, 33, 34, 35, 36, 37, 38, 39, 40, 41, 42, 43, 44, 45, 46, 47, 48, 49, 50, 51, 52, 53, 54, 55, 56, 57, 58, 59, 60, 61, 62, 63, 64, 65, 66, 67, 68, 69, 70, 71, 72, 73, 74, 75, 76, 77, 78, 79, 80, 81, 82, 83, 84, 85, 86, 87, 88, 89, 90, 91, 92, 93, 94, 95, 96, 97, 98, 99, 100, 101, 102, 103, 104, 105, 106, 107, 108, 109, 110, 111, 112, 113, 114, 115, 116, 117, 118, 119, 120, 121, 122, 123, 124, 125, 126, 127, 128, 129, 130, 131, 132] (by decide +kernel) (by decide +kernel)) (goodIn_sub (fun _ h => List.mem_cons_of_mem _ (List.mem_append_left _ (List.mem_append_left _ (List.mem_append_right _ h)))) (by decide +kernel))) (goodIn_sub (fun _ h => List.mem_cons_of_mem _ (List.mem_append_left _ (List.mem_append_right _ h))) (by decide +kernel))) (goodIn_sub (fun _ h => List.mem_cons_of_mem _ (List.mem_append_right _ h)) (by decide +kernel))
set_option maxRecDepth 20000 in
theorem gL_edit_X4_edit : GoodIn wsL_edit (wsV RL 19 RX4 yX4_edit wsX4_edit) := goodIn_app (goodIn_of _ (by decide +kernel)) ggL_edit_X4_edit
theorem dL_edit_0 : decode cL_edit 0 = .ok (.aload 5, 2) := by decide +kernel
theorem dL_edit_2 : decode cL_edit 2 = .ok (.iconst 0, 1) := by decide +kernel
theorem dL_edit_3 : decode cL_edit 3 = .ok (.aload_n 0, 1) := by decide +kernel
theorem dL_edit_4 : decode cL_edit 4 = .ok (.iload_n 1, 1) := by decide +kernel
theorem dL_edit_5 : decode cL_edit 5 = .ok (.iload_n 2, 1) := by decide +kernel
theorem dL_edit_6 : decode cL_edit 6 = .ok (.iload_n 3, 1) := by decide +kernel
theorem dL_edit_7 : decode cL_edit 7 = .ok (.iload 4, 2) := by decide +kernel
theorem dL_edit_9 : decode cL_edit 9 = .ok (.invokevirtual 19, 3) := by decide +kernel
theorem dL_edit_12 : decode cL_edit 12 = .ok (.ifCond .eq 7, 3) := by decide +kernel
theorem dL_edit_15 : decode cL_edit 15 = .ok (.lconst 1, 1) := by decide +kernel
theorem dL_edit_16 : decode cL_edit 16 = .ok (.goto 4, 3) := by decide +kernel
theorem dL_edit_19 : decode cL_edit 19 = .ok (.lconst 0, 1) := by decide +kernel
theorem dL_edit_20 : decode cL_edit 20 = .ok (.lastore, 1) := by decide +kernel
theorem dL_edit_21 : decode cL_edit 21 = .ok (.goto 15, 3) := by decide +kernel
theorem dL_edit_24 : decode cL_edit 24 = .ok (.astore 6, 2) := by decide +kernel
theorem dL_edit_26 : decode cL_edit 26 = .ok (.iconst 1, 1) := by decide +kernel
theorem dL_edit_27 : decode cL_edit 27 = .ok (.ireturn, 1) := by decide +kernel
theorem dL_edit_28 : decode cL_edit 28 = .ok (.astore 6, 2) := by decide +kernel
theorem dL_edit_30 : decode cL_edit 30 = .ok (.iconst 2, 1) := by decide +kernel
theorem dL_edit_31 : decode cL_edit 31 = .ok (.ireturn, 1) := by decide +kernel
theorem dL_edit_32 : decode cL_edit 32 = .ok (.astore 6, 2) := by decide +kernel
theorem dL_edit_34 : decode cL_edit 34 = .ok (.iconst 3, 1) := by decide +kernel
theorem dL_edit_35 : decode cL_edit 35 = .ok (.ireturn, 1) := by decide +kernel
theorem dL_edit_36 : decode cL_edit 36 = .ok (.iconst 0, 1) := by decide +kernel
theorem dL_edit_37 : decode cL_edit 37 = .ok (.ireturn, 1) := by decide +kernel
set_option maxRecDepth 20000 in
theorem ggL_judge_X4_judge : GoodIn wsL_judge wsX4_judge := goodIn_ca (goodIn_ca (goodIn_r _ [7, 8, 9, 10, 11, 12, 13, 14, 15, 6, 16, 17, 18, 19, 20, 21, 22, 23, 24, 25, 26, 27, 28, 29, 30, 31, 32, 33, 34, 35, 36, 37, 38, 39, 40, 41, 42, 43, 44, 45, 46, 47, 48, 49, 50, 51, 52, 53, 54, 55, 56, 57, 58, 59, 60, 61, 62, 63, 64, 65, 66, 67, 68, 69, 70, 71, 72, 73, 74, 75, 76, 77, 78, 79, 80, 81, 82, 83, 84, 85, 86, 87, 88, 89, 90, 91, 92, 93, 94, 95, 96, 97, 98, 99, 100, 101, 102, 103, 104, 105, 106, 107, 108, 109, 110, 111, 112] (by decide +kernel) (by decide +kernel)) (goodIn_sub (fun _ h => List.mem_cons_of_mem _ (List.mem_append_left _ (List.mem_append_right _ h))) (by decide +kernel))) (goodIn_sub (fun _ h => List.mem_cons_of_mem _ (List.mem_append_right _ h)) (by decide +kernel))
set_option maxRecDepth 20000 in
theorem gL_judge_X4_judge : GoodIn wsL_judge (wsV RL 23 RX4 yX4_judge wsX4_judge) := goodIn_app (goodIn_of _ (by decide +kernel)) ggL_judge_X4_judge
theorem dL_judge_0 : decode cL_judge 0 = .ok (.aload 4, 2) := by decide +kernel
theorem dL_judge_2 : decode cL_judge 2 = .ok (.iconst 0, 1) := by decide +kernel
theorem dL_judge_3 : decode cL_judge 3 = .ok (.aload_n 0, 1) := by decide +kernel
theorem dL_judge_4 : decode cL_judge 4 = .ok (.iload_n 1, 1) := by decide +kernel
theorem dL_judge_5 : decode cL_judge 5 = .ok (.iload_n 2, 1) := by decide +kernel
theorem dL_judge_6 : decode cL_judge 6 = .ok (.iload_n 3, 1) := by decide +kernel
theorem dL_judge_7 : decode cL_judge 7 = .ok (.invokevirtual 23, 3) := by decide +kernel
theorem dL_judge_10 : decode cL_judge 10 = .ok (.i2l, 1) := by decide +kernel
theorem dL_judge_11 : decode cL_judge 11 = .ok (.lastore, 1) := by decide +kernel
theorem dL_judge_12 : decode cL_judge 12 = .ok (.goto 11, 3) := by decide +kernel
theorem dL_judge_15 : decode cL_judge 15 = .ok (.astore 5, 2) := by decide +kernel
theorem dL_judge_17 : decode cL_judge 17 = .ok (.iconst 1, 1) := by decide +kernel
theorem dL_judge_18 : decode cL_judge 18 = .ok (.ireturn, 1) := by decide +kernel
theorem dL_judge_19 : decode cL_judge 19 = .ok (.astore 5, 2) := by decide +kernel
theorem dL_judge_21 : decode cL_judge 21 = .ok (.iconst 2, 1) := by decide +kernel
theorem dL_judge_22 : decode cL_judge 22 = .ok (.ireturn, 1) := by decide +kernel
theorem dL_judge_23 : decode cL_judge 23 = .ok (.iconst 0, 1) := by decide +kernel
theorem dL_judge_24 : decode cL_judge 24 = .ok (.ireturn, 1) := by decide +kernel
set_option maxRecDepth 20000 in
theorem ggL_revert_X4_revert : GoodIn wsL_revert wsX4_revert := goodIn_ca (goodIn_ca (goodIn_r _ [7, 8, 9, 10, 11, 12, 13, 14, 15, 16, 17, 18, 19, 20, 21, 6, 22, 23, 24, 25, 26, 27, 28, 29, 30, 31, 32, 33, 34, 35, 36, 37, 38, 39, 40, 41, 42, 43, 44, 45, 46, 47, 48, 49, 50, 51, 52, 53, 54, 55, 56, 57, 58, 59, 60, 61, 62, 63, 64, 65, 66, 67, 68, 69, 70, 71, 72, 73, 74, 75, 76, 77, 78, 79, 80, 81, 82, 83, 84, 85, 86, 87, 88, 89, 90, 91, 92, 93, 94, 95, 96, 97, 98, 99, 100, 101, 102, 103, 104, 105, 106, 107, 108, 109, 110, 111, 112, 113, 114, 115, 116, 117, 118, 119, 120, 121, 122, 123, 124, 125] (by decide +kernel) (by decide +kernel)) (goodIn_sub (fun _ h => List.mem_cons_of_mem _ (List.mem_append_left _ (List.mem_append_right _ h))) (by decide +kernel))) (goodIn_sub (fun _ h => List.mem_cons_of_mem _ (List.mem_append_right _ h)) (by decide +kernel))
set_option maxRecDepth 20000 in
theorem gL_revert_X4_revert : GoodIn wsL_revert (wsV RL 27 RX4 yX4_revert wsX4_revert) := goodIn_app (goodIn_of _ (by decide +kernel)) ggL_revert_X4_revert
theorem dL_revert_0 : decode cL_revert 0 = .ok (.aload_n 3, 1) := by decide +kernel
theorem dL_revert_1 : decode cL_revert 1 = .ok (.iconst 0, 1) := by decide +kernel
theorem dL_revert_2 : decode cL_revert 2 = .ok (.aload_n 0, 1) := by decide +kernel
theorem dL_revert_3 : decode cL_revert 3 = .ok (.iload_n 1, 1) := by decide +kernel
theorem dL_revert_4 : decode cL_revert 4 = .ok (.iload_n 2, 1) := by decide +kernel
theorem dL_revert_5 : decode cL_revert 5 = .ok (.invokevirtual 27, 3) := by decide +kernel
theorem dL_revert_8 : decode cL_revert 8 = .ok (.i2l, 1) := by decide +kernel
theorem dL_revert_9 : decode cL_revert 9 = .ok (.lastore, 1) := by decide +kernel
theorem dL_revert_10 : decode cL_revert 10 = .ok (.goto 11, 3) := by decide +kernel
theorem dL_revert_13 : decode cL_revert 13 = .ok (.astore 4, 2) := by decide +kernel
theorem dL_revert_15 : decode cL_revert 15 = .ok (.iconst 1, 1) := by decide +kernel
theorem dL_revert_16 : decode cL_revert 16 = .ok (.ireturn, 1) := by decide +kernel
theorem dL_revert_17 : decode cL_revert 17 = .ok (.astore 4, 2) := by decide +kernel
theorem dL_revert_19 : decode cL_revert 19 = .ok (.iconst 2, 1) := by decide +kernel
theorem dL_revert_20 : decode cL_revert 20 = .ok (.ireturn, 1) := by decide +kernel
theorem dL_revert_21 : decode cL_revert 21 = .ok (.iconst 0, 1) := by decide +kernel
theorem dL_revert_22 : decode cL_revert 22 = .ok (.ireturn, 1) := by decide +kernel
set_option maxRecDepth 20000 in
theorem ggL_guard_X4_guard : GoodIn wsL_guard wsX4_guard := goodIn_ca (goodIn_ca (goodIn_r _ [7, 8, 9, 10, 11, 12, 13, 6, 14, 15, 16, 17, 18, 19, 20, 21, 22, 23, 24, 25, 26, 27, 28, 29, 30, 31, 32, 33, 34, 35, 36, 37, 38, 39, 40, 41, 42, 43, 44, 45, 46, 47, 48, 49, 50, 51, 52, 53, 54, 55, 56, 57, 58, 59, 60, 61] (by decide +kernel) (by decide +kernel)) (goodIn_sub (fun _ h => List.mem_cons_of_mem _ (List.mem_append_left _ (List.mem_append_right _ h))) (by decide +kernel))) (goodIn_sub (fun _ h => List.mem_cons_of_mem _ (List.mem_append_right _ h)) (by decide +kernel))
set_option maxRecDepth 20000 in
theorem gL_guard_X4_guard : GoodIn wsL_guard (wsV RL 31 RX4 yX4_guard wsX4_guard) := goodIn_app (goodIn_of _ (by decide +kernel)) ggL_guard_X4_guard
theorem dL_guard_0 : decode cL_guard 0 = .ok (.aload_n 3, 1) := by decide +kernel
theorem dL_guard_1 : decode cL_guard 1 = .ok (.iconst 0, 1) := by decide +kernel
theorem dL_guard_2 : decode cL_guard 2 = .ok (.aload_n 0, 1) := by decide +kernel
theorem dL_guard_3 : decode cL_guard 3 = .ok (.iload_n 1, 1) := by decide +kernel
theorem dL_guard_4 : decode cL_guard 4 = .ok (.iload_n 2, 1) := by decide +kernel
theorem dL_guard_5 : decode cL_guard 5 = .ok (.invokevirtual 31, 3) := by decide +kernel
theorem dL_guard_8 : decode cL_guard 8 = .ok (.i2l, 1) := by decide +kernel
theorem dL_guard_9 : decode cL_guard 9 = .ok (.lastore, 1) := by decide +kernel
theorem dL_guard_10 : decode cL_guard 10 = .ok (.goto 11, 3) := by decide +kernel
theorem dL_guard_13 : decode cL_guard 13 = .ok (.astore 4, 2) := by decide +kernel
theorem dL_guard_15 : decode cL_guard 15 = .ok (.iconst 1, 1) := by decide +kernel
theorem dL_guard_16 : decode cL_guard 16 = .ok (.ireturn, 1) := by decide +kernel
theorem dL_guard_17 : decode cL_guard 17 = .ok (.astore 4, 2) := by decide +kernel
theorem dL_guard_19 : decode cL_guard 19 = .ok (.iconst 2, 1) := by decide +kernel
theorem dL_guard_20 : decode cL_guard 20 = .ok (.ireturn, 1) := by decide +kernel
theorem dL_guard_21 : decode cL_guard 21 = .ok (.iconst 0, 1) := by decide +kernel
theorem dL_guard_22 : decode cL_guard 22 = .ok (.ireturn, 1) := by decide +kernel
set_option maxRecDepth 20000 in
theorem ggL_trust_X4_trust : GoodIn wsL_trust wsX4_trust := goodIn_ca (goodIn_r _ [6, 7, 8, 9, 5, 10, 11, 12, 13, 14, 15, 16, 17, 18, 19, 20, 21] (by decide +kernel) (by decide +kernel)) (goodIn_sub (fun _ h => List.mem_cons_of_mem _ (List.mem_append_right _ h)) (by decide +kernel))
set_option maxRecDepth 20000 in
theorem gL_trust_X4_trust : GoodIn wsL_trust (wsV RL 34 RX4 yX4_trust wsX4_trust) := goodIn_app (goodIn_of _ (by decide +kernel)) ggL_trust_X4_trust
theorem dL_trust_0 : decode cL_trust 0 = .ok (.aload_n 2, 1) := by decide +kernel
theorem dL_trust_1 : decode cL_trust 1 = .ok (.iconst 0, 1) := by decide +kernel
theorem dL_trust_2 : decode cL_trust 2 = .ok (.aload_n 0, 1) := by decide +kernel
theorem dL_trust_3 : decode cL_trust 3 = .ok (.iload_n 1, 1) := by decide +kernel
theorem dL_trust_4 : decode cL_trust 4 = .ok (.invokevirtual 34, 3) := by decide +kernel
theorem dL_trust_7 : decode cL_trust 7 = .ok (.i2l, 1) := by decide +kernel
theorem dL_trust_8 : decode cL_trust 8 = .ok (.lastore, 1) := by decide +kernel
theorem dL_trust_9 : decode cL_trust 9 = .ok (.goto 6, 3) := by decide +kernel
theorem dL_trust_12 : decode cL_trust 12 = .ok (.astore_n 3, 1) := by decide +kernel
theorem dL_trust_13 : decode cL_trust 13 = .ok (.iconst 1, 1) := by decide +kernel
theorem dL_trust_14 : decode cL_trust 14 = .ok (.ireturn, 1) := by decide +kernel
theorem dL_trust_15 : decode cL_trust 15 = .ok (.iconst 0, 1) := by decide +kernel
theorem dL_trust_16 : decode cL_trust 16 = .ok (.ireturn, 1) := by decide +kernel
set_option maxRecDepth 20000 in
theorem ggL_versions_X4_versions : GoodIn wsL_versions wsX4_versions := goodIn_ca (goodIn_r _ [6, 7, 8, 9, 5, 10, 11, 12, 13, 14, 15, 16, 17, 18, 19, 20, 21, 22, 23, 24, 25, 26, 27, 28, 29, 30, 31, 32, 33, 34, 35, 36, 37, 38, 39, 40, 41, 42, 43, 44, 45, 46, 47, 48, 49, 50, 51, 52, 53, 54, 55, 56, 57, 58, 59, 60, 61, 62, 63, 64, 65] (by decide +kernel) (by decide +kernel)) (goodIn_sub (fun _ h => List.mem_cons_of_mem _ (List.mem_append_right _ h)) (by decide +kernel))
set_option maxRecDepth 20000 in
theorem gL_versions_X4_versions : GoodIn wsL_versions (wsV RL 38 RX4 yX4_versions wsX4_versions) := goodIn_app (goodIn_of _ (by decide +kernel)) ggL_versions_X4_versions
theorem dL_versions_0 : decode cL_versions 0 = .ok (.aload_n 2, 1) := by decide +kernel
theorem dL_versions_1 : decode cL_versions 1 = .ok (.iconst 0, 1) := by decide +kernel
theorem dL_versions_2 : decode cL_versions 2 = .ok (.aload_n 0, 1) := by decide +kernel
theorem dL_versions_3 : decode cL_versions 3 = .ok (.iload_n 1, 1) := by decide +kernel
theorem dL_versions_4 : decode cL_versions 4 = .ok (.invokevirtual 38, 3) := by decide +kernel
theorem dL_versions_7 : decode cL_versions 7 = .ok (.i2l, 1) := by decide +kernel
theorem dL_versions_8 : decode cL_versions 8 = .ok (.lastore, 1) := by decide +kernel
theorem dL_versions_9 : decode cL_versions 9 = .ok (.goto 6, 3) := by decide +kernel
theorem dL_versions_12 : decode cL_versions 12 = .ok (.astore_n 3, 1) := by decide +kernel
theorem dL_versions_13 : decode cL_versions 13 = .ok (.iconst 1, 1) := by decide +kernel
theorem dL_versions_14 : decode cL_versions 14 = .ok (.ireturn, 1) := by decide +kernel
theorem dL_versions_15 : decode cL_versions 15 = .ok (.iconst 0, 1) := by decide +kernel
theorem dL_versions_16 : decode cL_versions 16 = .ok (.ireturn, 1) := by decide +kernel
set_option maxRecDepth 20000 in
theorem ggL_version_X4_version : GoodIn wsL_version wsX4_version := goodIn_ca (goodIn_r _ [6, 7, 8, 9, 10, 5, 11, 12, 13, 14, 15, 16, 17, 18, 19, 20, 21, 22, 23, 24, 25, 26, 27, 28, 29, 30, 31, 32, 33, 34, 35, 36, 37, 38, 39, 40, 41, 42, 43, 44, 45, 46, 47, 48, 49, 50, 51, 52, 53, 54, 55, 56, 57, 58, 59, 60, 61, 62, 63, 64, 65, 66, 67, 68, 69, 70, 71, 72, 73, 74, 75, 76] (by decide +kernel) (by decide +kernel)) (goodIn_sub (fun _ h => List.mem_cons_of_mem _ (List.mem_append_right _ h)) (by decide +kernel))
set_option maxRecDepth 20000 in
theorem gL_version_X4_version : GoodIn wsL_version (wsV RL 41 RX4 yX4_version wsX4_version) := goodIn_app (goodIn_of _ (by decide +kernel)) ggL_version_X4_version
theorem dL_version_0 : decode cL_version 0 = .ok (.aload_n 3, 1) := by decide +kernel
theorem dL_version_1 : decode cL_version 1 = .ok (.iconst 0, 1) := by decide +kernel
theorem dL_version_2 : decode cL_version 2 = .ok (.aload_n 0, 1) := by decide +kernel
theorem dL_version_3 : decode cL_version 3 = .ok (.iload_n 1, 1) := by decide +kernel
theorem dL_version_4 : decode cL_version 4 = .ok (.iload_n 2, 1) := by decide +kernel
theorem dL_version_5 : decode cL_version 5 = .ok (.invokevirtual 41, 3) := by decide +kernel
theorem dL_version_8 : decode cL_version 8 = .ok (.i2l, 1) := by decide +kernel
theorem dL_version_9 : decode cL_version 9 = .ok (.lastore, 1) := by decide +kernel
theorem dL_version_10 : decode cL_version 10 = .ok (.goto 7, 3) := by decide +kernel
theorem dL_version_13 : decode cL_version 13 = .ok (.astore 4, 2) := by decide +kernel
theorem dL_version_15 : decode cL_version 15 = .ok (.iconst 1, 1) := by decide +kernel
theorem dL_version_16 : decode cL_version 16 = .ok (.ireturn, 1) := by decide +kernel
theorem dL_version_17 : decode cL_version 17 = .ok (.iconst 0, 1) := by decide +kernel
theorem dL_version_18 : decode cL_version 18 = .ok (.ireturn, 1) := by decide +kernel
set_option maxRecDepth 20000 in
theorem ggL_stampOf_X4_stampOf : GoodIn wsL_stampOf wsX4_stampOf := goodIn_ca (goodIn_r _ [6, 7, 8, 9, 10, 5, 11, 12, 13, 14, 15, 16, 17, 18, 19, 20, 21, 22, 23, 24, 25, 26, 27, 28, 29, 30, 31, 32, 33, 34, 35, 36, 37, 38, 39, 40, 41, 42, 43, 44, 45, 46, 47, 48, 49, 50, 51, 52, 53, 54, 55, 56, 57, 58, 59, 60, 61, 62, 63, 64, 65] (by decide +kernel) (by decide +kernel)) (goodIn_sub (fun _ h => List.mem_cons_of_mem _ (List.mem_append_right _ h)) (by decide +kernel))
set_option maxRecDepth 20000 in
theorem gL_stampOf_X4_stampOf : GoodIn wsL_stampOf (wsV RL 44 RX4 yX4_stampOf wsX4_stampOf) := goodIn_app (goodIn_of _ (by decide +kernel)) ggL_stampOf_X4_stampOf
theorem dL_stampOf_0 : decode cL_stampOf 0 = .ok (.aload_n 3, 1) := by decide +kernel
theorem dL_stampOf_1 : decode cL_stampOf 1 = .ok (.iconst 0, 1) := by decide +kernel
theorem dL_stampOf_2 : decode cL_stampOf 2 = .ok (.aload_n 0, 1) := by decide +kernel
theorem dL_stampOf_3 : decode cL_stampOf 3 = .ok (.iload_n 1, 1) := by decide +kernel
theorem dL_stampOf_4 : decode cL_stampOf 4 = .ok (.iload_n 2, 1) := by decide +kernel
theorem dL_stampOf_5 : decode cL_stampOf 5 = .ok (.invokevirtual 44, 3) := by decide +kernel
theorem dL_stampOf_8 : decode cL_stampOf 8 = .ok (.i2l, 1) := by decide +kernel
theorem dL_stampOf_9 : decode cL_stampOf 9 = .ok (.lastore, 1) := by decide +kernel
theorem dL_stampOf_10 : decode cL_stampOf 10 = .ok (.goto 7, 3) := by decide +kernel
theorem dL_stampOf_13 : decode cL_stampOf 13 = .ok (.astore 4, 2) := by decide +kernel
theorem dL_stampOf_15 : decode cL_stampOf 15 = .ok (.iconst 1, 1) := by decide +kernel
theorem dL_stampOf_16 : decode cL_stampOf 16 = .ok (.ireturn, 1) := by decide +kernel
theorem dL_stampOf_17 : decode cL_stampOf 17 = .ok (.iconst 0, 1) := by decide +kernel
theorem dL_stampOf_18 : decode cL_stampOf 18 = .ok (.ireturn, 1) := by decide +kernel
set_option maxRecDepth 20000 in
theorem ggL_waiting_X4_waiting : GoodIn wsL_waiting wsX4_waiting := goodIn_ca (goodIn_r _ [6, 7, 8, 9, 10, 5, 11, 12, 13, 14, 15, 16, 17, 18, 19, 20, 21, 22, 23, 24, 25, 26, 27, 28, 29, 30, 31, 32, 33, 34, 35, 36, 37, 38, 39, 40, 41, 42, 43, 44, 45, 46, 47, 48, 49, 50, 51, 52, 53, 54, 55, 56, 57, 58, 59, 60, 61, 62, 63, 64, 65, 66] (by decide +kernel) (by decide +kernel)) (goodIn_sub (fun _ h => List.mem_cons_of_mem _ (List.mem_append_right _ h)) (by decide +kernel))
set_option maxRecDepth 20000 in
theorem gL_waiting_X4_waiting : GoodIn wsL_waiting (wsV RL 47 RX4 yX4_waiting wsX4_waiting) := goodIn_app (goodIn_of _ (by decide +kernel)) ggL_waiting_X4_waiting
theorem dL_waiting_0 : decode cL_waiting 0 = .ok (.aload_n 2, 1) := by decide +kernel
theorem dL_waiting_1 : decode cL_waiting 1 = .ok (.iconst 0, 1) := by decide +kernel
theorem dL_waiting_2 : decode cL_waiting 2 = .ok (.aload_n 0, 1) := by decide +kernel
theorem dL_waiting_3 : decode cL_waiting 3 = .ok (.iload_n 1, 1) := by decide +kernel
theorem dL_waiting_4 : decode cL_waiting 4 = .ok (.invokevirtual 47, 3) := by decide +kernel
theorem dL_waiting_7 : decode cL_waiting 7 = .ok (.i2l, 1) := by decide +kernel
theorem dL_waiting_8 : decode cL_waiting 8 = .ok (.lastore, 1) := by decide +kernel
theorem dL_waiting_9 : decode cL_waiting 9 = .ok (.goto 6, 3) := by decide +kernel
theorem dL_waiting_12 : decode cL_waiting 12 = .ok (.astore_n 3, 1) := by decide +kernel
theorem dL_waiting_13 : decode cL_waiting 13 = .ok (.iconst 1, 1) := by decide +kernel
theorem dL_waiting_14 : decode cL_waiting 14 = .ok (.ireturn, 1) := by decide +kernel
theorem dL_waiting_15 : decode cL_waiting 15 = .ok (.iconst 0, 1) := by decide +kernel
theorem dL_waiting_16 : decode cL_waiting 16 = .ok (.ireturn, 1) := by decide +kernel
set_option maxRecDepth 20000 in
theorem ggL_draw_X4_draw : GoodIn wsL_draw wsX4_draw := goodIn_ca (goodIn_r _ [6, 7, 8, 9, 10, 11, 12, 5, 13, 14, 15, 16, 17, 18, 19, 20, 21, 22, 23, 24, 25, 26, 27, 28, 29, 30, 31, 32, 33, 34, 35, 36, 37, 38, 39, 40, 41, 42, 43, 44, 45, 46, 47, 48, 49, 50, 51, 52, 53, 54, 55, 56, 57, 58, 59, 60, 61, 62, 63, 64, 65, 66, 67, 68, 69, 70, 71, 72, 73, 74, 75, 76, 77, 78, 79, 80, 81, 82, 83, 84, 85, 86, 87, 88, 89, 90, 91, 92, 93, 94, 95, 96, 97, 98, 99, 100, 101, 102, 103, 104, 105, 106, 107, 108, 109, 110, 111, 112, 113, 114, 115, 116, 117, 118, 119, 120, 121, 122, 123, 124, 125, 126, 127, 128, 129, 130, 131, 132, 133, 134, 135, 136, 137, 138] (by decide +kernel) (by decide +kernel)) (goodIn_sub (fun _ h => List.mem_cons_of_mem _ (List.mem_append_right _ h)) (by decide +kernel))
set_option maxRecDepth 20000 in
theorem gL_draw_X4_draw : GoodIn wsL_draw (wsV RL 50 RX4 yX4_draw wsX4_draw) := goodIn_app (goodIn_of _ (by decide +kernel)) ggL_draw_X4_draw
theorem dL_draw_0 : decode cL_draw 0 = .ok (.aload 4, 2) := by decide +kernel
theorem dL_draw_2 : decode cL_draw 2 = .ok (.iconst 0, 1) := by decide +kernel
theorem dL_draw_3 : decode cL_draw 3 = .ok (.aload_n 0, 1) := by decide +kernel
theorem dL_draw_4 : decode cL_draw 4 = .ok (.iload_n 1, 1) := by decide +kernel
theorem dL_draw_5 : decode cL_draw 5 = .ok (.iload_n 2, 1) := by decide +kernel
theorem dL_draw_6 : decode cL_draw 6 = .ok (.iload_n 3, 1) := by decide +kernel
theorem dL_draw_7 : decode cL_draw 7 = .ok (.invokevirtual 50, 3) := by decide +kernel
theorem dL_draw_10 : decode cL_draw 10 = .ok (.i2l, 1) := by decide +kernel
theorem dL_draw_11 : decode cL_draw 11 = .ok (.lastore, 1) := by decide +kernel
theorem dL_draw_12 : decode cL_draw 12 = .ok (.goto 7, 3) := by decide +kernel
theorem dL_draw_15 : decode cL_draw 15 = .ok (.astore 5, 2) := by decide +kernel
theorem dL_draw_17 : decode cL_draw 17 = .ok (.iconst 1, 1) := by decide +kernel
theorem dL_draw_18 : decode cL_draw 18 = .ok (.ireturn, 1) := by decide +kernel
theorem dL_draw_19 : decode cL_draw 19 = .ok (.iconst 0, 1) := by decide +kernel
theorem dL_draw_20 : decode cL_draw 20 = .ok (.ireturn, 1) := by decide +kernel
set_option maxRecDepth 20000 in
theorem ggL_picture_X4_picture : GoodIn wsL_picture wsX4_picture := goodIn_ca (goodIn_ca (goodIn_r _ [7, 8, 9, 10, 11, 6, 12, 13, 14, 15, 16, 17, 18, 19, 20, 21, 22, 23, 24, 25, 26, 27, 28, 29, 30, 31, 32, 33, 34, 35, 36, 37, 38, 39, 40, 41, 42, 43] (by decide +kernel) (by decide +kernel)) (goodIn_sub (fun _ h => List.mem_cons_of_mem _ (List.mem_append_left _ (List.mem_append_right _ h))) (by decide +kernel))) (goodIn_sub (fun _ h => List.mem_cons_of_mem _ (List.mem_append_right _ h)) (by decide +kernel))
set_option maxRecDepth 20000 in
theorem gL_picture_X4_picture : GoodIn wsL_picture (wsV RL 54 RX4 yX4_picture wsX4_picture) := goodIn_app (goodIn_of _ (by decide +kernel)) ggL_picture_X4_picture
theorem dL_picture_0 : decode cL_picture 0 = .ok (.aload 4, 2) := by decide +kernel
theorem dL_picture_2 : decode cL_picture 2 = .ok (.iconst 0, 1) := by decide +kernel
theorem dL_picture_3 : decode cL_picture 3 = .ok (.aload_n 0, 1) := by decide +kernel
theorem dL_picture_4 : decode cL_picture 4 = .ok (.iload_n 1, 1) := by decide +kernel
theorem dL_picture_5 : decode cL_picture 5 = .ok (.iload_n 2, 1) := by decide +kernel
theorem dL_picture_6 : decode cL_picture 6 = .ok (.iload_n 3, 1) := by decide +kernel
theorem dL_picture_7 : decode cL_picture 7 = .ok (.invokevirtual 54, 3) := by decide +kernel
theorem dL_picture_10 : decode cL_picture 10 = .ok (.i2l, 1) := by decide +kernel
theorem dL_picture_11 : decode cL_picture 11 = .ok (.lastore, 1) := by decide +kernel
theorem dL_picture_12 : decode cL_picture 12 = .ok (.goto 11, 3) := by decide +kernel
theorem dL_picture_15 : decode cL_picture 15 = .ok (.astore 5, 2) := by decide +kernel
theorem dL_picture_17 : decode cL_picture 17 = .ok (.iconst 1, 1) := by decide +kernel
theorem dL_picture_18 : decode cL_picture 18 = .ok (.ireturn, 1) := by decide +kernel
theorem dL_picture_19 : decode cL_picture 19 = .ok (.astore 5, 2) := by decide +kernel
theorem dL_picture_21 : decode cL_picture 21 = .ok (.iconst 2, 1) := by decide +kernel
theorem dL_picture_22 : decode cL_picture 22 = .ok (.ireturn, 1) := by decide +kernel
theorem dL_picture_23 : decode cL_picture 23 = .ok (.iconst 0, 1) := by decide +kernel
theorem dL_picture_24 : decode cL_picture 24 = .ok (.ireturn, 1) := by decide +kernel
set_option maxRecDepth 20000 in
theorem ggL_pictureAnew_X4_pictureAnew : GoodIn wsL_pictureAnew wsX4_pictureAnew := goodIn_ca (goodIn_ca (goodIn_r _ [7, 8, 9, 10, 11, 6, 12, 13, 14, 15, 16, 17, 18, 19, 20, 21, 22, 23, 24, 25, 26, 27, 28, 29, 30, 31, 32, 33, 34, 35, 36, 37, 38, 39, 40, 41, 42, 43, 44, 45, 46, 47, 48, 49, 50, 51, 52, 53, 54, 55, 56, 57, 58, 59, 60, 61, 62, 63, 64, 65, 66, 67, 68, 69, 70, 71, 72, 73, 74, 75, 76, 77, 78, 79, 80, 81, 82, 83, 84, 85, 86, 87, 88, 89, 90, 91, 92, 93, 94, 95, 96, 97, 98, 99, 100, 101, 102, 103, 104, 105, 106, 107, 108, 109, 110, 111, 112, 113, 114, 115, 116, 117, 118, 119, 120, 121] (by decide +kernel) (by decide +kernel)) (goodIn_sub (fun _ h => List.mem_cons_of_mem _ (List.mem_append_left _ (List.mem_append_right _ h))) (by decide +kernel))) (goodIn_sub (fun _ h => List.mem_cons_of_mem _ (List.mem_append_right _ h)) (by decide +kernel))
set_option maxRecDepth 20000 in
theorem gL_pictureAnew_X4_pictureAnew : GoodIn wsL_pictureAnew (wsV RL 57 RX4 yX4_pictureAnew wsX4_pictureAnew) := goodIn_app (goodIn_of _ (by decide +kernel)) ggL_pictureAnew_X4_pictureAnew
theorem dL_pictureAnew_0 : decode cL_pictureAnew 0 = .ok (.aload 4, 2) := by decide +kernel
theorem dL_pictureAnew_2 : decode cL_pictureAnew 2 = .ok (.iconst 0, 1) := by decide +kernel
theorem dL_pictureAnew_3 : decode cL_pictureAnew 3 = .ok (.aload_n 0, 1) := by decide +kernel
theorem dL_pictureAnew_4 : decode cL_pictureAnew 4 = .ok (.iload_n 1, 1) := by decide +kernel
theorem dL_pictureAnew_5 : decode cL_pictureAnew 5 = .ok (.iload_n 2, 1) := by decide +kernel
theorem dL_pictureAnew_6 : decode cL_pictureAnew 6 = .ok (.iload_n 3, 1) := by decide +kernel
theorem dL_pictureAnew_7 : decode cL_pictureAnew 7 = .ok (.invokevirtual 57, 3) := by decide +kernel
theorem dL_pictureAnew_10 : decode cL_pictureAnew 10 = .ok (.i2l, 1) := by decide +kernel
theorem dL_pictureAnew_11 : decode cL_pictureAnew 11 = .ok (.lastore, 1) := by decide +kernel
theorem dL_pictureAnew_12 : decode cL_pictureAnew 12 = .ok (.goto 11, 3) := by decide +kernel
theorem dL_pictureAnew_15 : decode cL_pictureAnew 15 = .ok (.astore 5, 2) := by decide +kernel
theorem dL_pictureAnew_17 : decode cL_pictureAnew 17 = .ok (.iconst 1, 1) := by decide +kernel
theorem dL_pictureAnew_18 : decode cL_pictureAnew 18 = .ok (.ireturn, 1) := by decide +kernel
theorem dL_pictureAnew_19 : decode cL_pictureAnew 19 = .ok (.astore 5, 2) := by decide +kernel
theorem dL_pictureAnew_21 : decode cL_pictureAnew 21 = .ok (.iconst 2, 1) := by decide +kernel
theorem dL_pictureAnew_22 : decode cL_pictureAnew 22 = .ok (.ireturn, 1) := by decide +kernel
theorem dL_pictureAnew_23 : decode cL_pictureAnew 23 = .ok (.iconst 0, 1) := by decide +kernel
theorem dL_pictureAnew_24 : decode cL_pictureAnew 24 = .ok (.ireturn, 1) := by decide +kernel
set_option maxRecDepth 20000 in
theorem ggL_tileStamp_X4_tileStamp : GoodIn wsL_tileStamp wsX4_tileStamp := goodIn_ca (goodIn_r _ [6, 7, 8, 9, 10, 5, 11, 12, 13, 14, 15, 16, 17, 18, 19, 20, 21, 22, 23, 24, 25, 26, 27, 28, 29, 30, 31, 32, 33, 34, 35, 36] (by decide +kernel) (by decide +kernel)) (goodIn_sub (fun _ h => List.mem_cons_of_mem _ (List.mem_append_right _ h)) (by decide +kernel))
set_option maxRecDepth 20000 in
theorem gL_tileStamp_X4_tileStamp : GoodIn wsL_tileStamp (wsV RL 60 RX4 yX4_tileStamp wsX4_tileStamp) := goodIn_app (goodIn_of _ (by decide +kernel)) ggL_tileStamp_X4_tileStamp
theorem dL_tileStamp_0 : decode cL_tileStamp 0 = .ok (.aload 4, 2) := by decide +kernel
theorem dL_tileStamp_2 : decode cL_tileStamp 2 = .ok (.iconst 0, 1) := by decide +kernel
theorem dL_tileStamp_3 : decode cL_tileStamp 3 = .ok (.aload_n 0, 1) := by decide +kernel
theorem dL_tileStamp_4 : decode cL_tileStamp 4 = .ok (.iload_n 1, 1) := by decide +kernel
theorem dL_tileStamp_5 : decode cL_tileStamp 5 = .ok (.iload_n 2, 1) := by decide +kernel
theorem dL_tileStamp_6 : decode cL_tileStamp 6 = .ok (.iload_n 3, 1) := by decide +kernel
theorem dL_tileStamp_7 : decode cL_tileStamp 7 = .ok (.invokevirtual 60, 3) := by decide +kernel
theorem dL_tileStamp_10 : decode cL_tileStamp 10 = .ok (.i2l, 1) := by decide +kernel
theorem dL_tileStamp_11 : decode cL_tileStamp 11 = .ok (.lastore, 1) := by decide +kernel
theorem dL_tileStamp_12 : decode cL_tileStamp 12 = .ok (.goto 7, 3) := by decide +kernel
theorem dL_tileStamp_15 : decode cL_tileStamp 15 = .ok (.astore 5, 2) := by decide +kernel
theorem dL_tileStamp_17 : decode cL_tileStamp 17 = .ok (.iconst 1, 1) := by decide +kernel
theorem dL_tileStamp_18 : decode cL_tileStamp 18 = .ok (.ireturn, 1) := by decide +kernel
theorem dL_tileStamp_19 : decode cL_tileStamp 19 = .ok (.iconst 0, 1) := by decide +kernel
theorem dL_tileStamp_20 : decode cL_tileStamp 20 = .ok (.ireturn, 1) := by decide +kernel
set_option maxRecDepth 20000 in
theorem ggL_isStale_X4_isStale : GoodIn wsL_isStale wsX4_isStale := goodIn_ca (goodIn_r _ [6, 7, 8, 9, 5, 10, 11, 12, 13, 14, 15, 16, 17, 18, 19, 20, 21, 22, 23, 24, 25, 26, 27, 28, 29, 30, 31, 32, 33, 34, 35, 36, 37, 38, 39, 40, 41, 42, 43, 44, 45, 46, 47, 48, 49, 50, 51, 52, 53, 54, 55, 56, 57, 58, 59, 60, 61, 62, 63, 64, 65, 66, 67, 68, 69, 70, 71, 72, 73, 74, 75, 76, 77, 78, 79, 80, 81, 82, 83, 84, 85, 86, 87, 88, 89, 90, 91, 92, 93, 94, 95, 96, 97, 98, 99, 100, 101, 102, 103, 104, 105, 106, 107, 108, 109, 110, 111] (by decide +kernel) (by decide +kernel)) (goodIn_sub (fun _ h => List.mem_cons_of_mem _ (List.mem_append_right _ h)) (by decide +kernel))
set_option maxRecDepth 20000 in
theorem gL_isStale_X4_isStale : GoodIn wsL_isStale (wsV RL 63 RX4 yX4_isStale wsX4_isStale) := goodIn_app (goodIn_of _ (by decide +kernel)) ggL_isStale_X4_isStale
theorem dL_isStale_0 : decode cL_isStale 0 = .ok (.aload 4, 2) := by decide +kernel
theorem dL_isStale_2 : decode cL_isStale 2 = .ok (.iconst 0, 1) := by decide +kernel
theorem dL_isStale_3 : decode cL_isStale 3 = .ok (.aload_n 0, 1) := by decide +kernel
theorem dL_isStale_4 : decode cL_isStale 4 = .ok (.iload_n 1, 1) := by decide +kernel
theorem dL_isStale_5 : decode cL_isStale 5 = .ok (.iload_n 2, 1) := by decide +kernel
theorem dL_isStale_6 : decode cL_isStale 6 = .ok (.iload_n 3, 1) := by decide +kernel
theorem dL_isStale_7 : decode cL_isStale 7 = .ok (.invokevirtual 63, 3) := by decide +kernel
theorem dL_isStale_10 : decode cL_isStale 10 = .ok (.ifCond .eq 7, 3) := by decide +kernel
theorem dL_isStale_13 : decode cL_isStale 13 = .ok (.lconst 1, 1) := by decide +kernel
theorem dL_isStale_14 : decode cL_isStale 14 = .ok (.goto 4, 3) := by decide +kernel
theorem dL_isStale_17 : decode cL_isStale 17 = .ok (.lconst 0, 1) := by decide +kernel
theorem dL_isStale_18 : decode cL_isStale 18 = .ok (.lastore, 1) := by decide +kernel
theorem dL_isStale_19 : decode cL_isStale 19 = .ok (.goto 7, 3) := by decide +kernel
theorem dL_isStale_22 : decode cL_isStale 22 = .ok (.astore 5, 2) := by decide +kernel
theorem dL_isStale_24 : decode cL_isStale 24 = .ok (.iconst 1, 1) := by decide +kernel
theorem dL_isStale_25 : decode cL_isStale 25 = .ok (.ireturn, 1) := by decide +kernel
theorem dL_isStale_26 : decode cL_isStale 26 = .ok (.iconst 0, 1) := by decide +kernel
theorem dL_isStale_27 : decode cL_isStale 27 = .ok (.ireturn, 1) := by decide +kernel
set_option maxRecDepth 20000 in
theorem ggL_staleTiles_X4_staleTiles : GoodIn wsL_staleTiles wsX4_staleTiles := goodIn_ca (goodIn_r _ [6, 7, 8, 9, 10, 5, 11, 12, 13, 14, 15, 16, 17, 18, 19, 20, 21, 22, 23, 24, 25, 26, 27, 28, 29, 30, 31, 32, 33, 34, 35, 36, 37, 38, 39, 40, 41, 42, 43, 44, 45, 46, 47, 48, 49, 50, 51, 52, 53, 54, 55, 56, 57, 58, 59, 60, 61, 62, 63, 64, 65, 66, 67, 68, 69, 70, 71, 72, 73, 74, 75, 76, 77, 78, 79, 80, 81, 82, 83, 84, 85, 86, 87, 88, 89, 90, 91, 92, 93, 94, 95, 96, 97, 98, 99, 100, 101, 102, 103, 104, 105, 106, 107, 108] (by decide +kernel) (by decide +kernel)) (goodIn_sub (fun _ h => List.mem_cons_of_mem _ (List.mem_append_right _ h)) (by decide +kernel))
set_option maxRecDepth 20000 in
theorem gL_staleTiles_X4_staleTiles : GoodIn wsL_staleTiles (wsV RL 67 RX4 yX4_staleTiles wsX4_staleTiles) := goodIn_app (goodIn_of _ (by decide +kernel)) ggL_staleTiles_X4_staleTiles
theorem dL_staleTiles_0 : decode cL_staleTiles 0 = .ok (.aload_n 2, 1) := by decide +kernel
theorem dL_staleTiles_1 : decode cL_staleTiles 1 = .ok (.iconst 0, 1) := by decide +kernel
theorem dL_staleTiles_2 : decode cL_staleTiles 2 = .ok (.aload_n 0, 1) := by decide +kernel
theorem dL_staleTiles_3 : decode cL_staleTiles 3 = .ok (.iload_n 1, 1) := by decide +kernel
theorem dL_staleTiles_4 : decode cL_staleTiles 4 = .ok (.invokevirtual 67, 3) := by decide +kernel
theorem dL_staleTiles_7 : decode cL_staleTiles 7 = .ok (.i2l, 1) := by decide +kernel
theorem dL_staleTiles_8 : decode cL_staleTiles 8 = .ok (.lastore, 1) := by decide +kernel
theorem dL_staleTiles_9 : decode cL_staleTiles 9 = .ok (.goto 6, 3) := by decide +kernel
theorem dL_staleTiles_12 : decode cL_staleTiles 12 = .ok (.astore_n 3, 1) := by decide +kernel
theorem dL_staleTiles_13 : decode cL_staleTiles 13 = .ok (.iconst 1, 1) := by decide +kernel
theorem dL_staleTiles_14 : decode cL_staleTiles 14 = .ok (.ireturn, 1) := by decide +kernel
theorem dL_staleTiles_15 : decode cL_staleTiles 15 = .ok (.iconst 0, 1) := by decide +kernel
theorem dL_staleTiles_16 : decode cL_staleTiles 16 = .ok (.ireturn, 1) := by decide +kernel
set_option maxRecDepth 20000 in
theorem ggL_drive_X4_drive : GoodIn wsL_drive wsX4_drive := goodIn_ca (goodIn_r _ [6, 7, 8, 9, 10, 5, 11, 12, 13, 14, 15, 16, 17, 18, 19, 20, 21, 22, 23, 24, 25, 26, 27, 28, 29, 30, 31, 32] (by decide +kernel) (by decide +kernel)) (goodIn_sub (fun _ h => List.mem_cons_of_mem _ (List.mem_append_right _ h)) (by decide +kernel))
set_option maxRecDepth 20000 in
theorem gL_drive_X4_drive : GoodIn wsL_drive (wsV RL 70 RX4 yX4_drive wsX4_drive) := goodIn_app (goodIn_of _ (by decide +kernel)) ggL_drive_X4_drive
theorem dL_drive_0 : decode cL_drive 0 = .ok (.aload 4, 2) := by decide +kernel
theorem dL_drive_2 : decode cL_drive 2 = .ok (.iconst 0, 1) := by decide +kernel
theorem dL_drive_3 : decode cL_drive 3 = .ok (.aload_n 0, 1) := by decide +kernel
theorem dL_drive_4 : decode cL_drive 4 = .ok (.iload_n 1, 1) := by decide +kernel
theorem dL_drive_5 : decode cL_drive 5 = .ok (.iload_n 2, 1) := by decide +kernel
theorem dL_drive_6 : decode cL_drive 6 = .ok (.iload_n 3, 1) := by decide +kernel
theorem dL_drive_7 : decode cL_drive 7 = .ok (.invokevirtual 70, 3) := by decide +kernel
theorem dL_drive_10 : decode cL_drive 10 = .ok (.i2l, 1) := by decide +kernel
theorem dL_drive_11 : decode cL_drive 11 = .ok (.lastore, 1) := by decide +kernel
theorem dL_drive_12 : decode cL_drive 12 = .ok (.goto 7, 3) := by decide +kernel
theorem dL_drive_15 : decode cL_drive 15 = .ok (.astore 5, 2) := by decide +kernel
theorem dL_drive_17 : decode cL_drive 17 = .ok (.iconst 1, 1) := by decide +kernel
theorem dL_drive_18 : decode cL_drive 18 = .ok (.ireturn, 1) := by decide +kernel
theorem dL_drive_19 : decode cL_drive 19 = .ok (.iconst 0, 1) := by decide +kernel
theorem dL_drive_20 : decode cL_drive 20 = .ok (.ireturn, 1) := by decide +kernel
set_option maxRecDepth 20000 in
theorem ggL_see_X4_see : GoodIn wsL_see wsX4_see := goodIn_ca (goodIn_ca (goodIn_ca (goodIn_r _ [8, 9, 10, 11, 12, 13, 14, 15, 16, 17, 18, 19, 7, 20, 21, 22, 23, 24, 25, 26, 27, 28, 29, 30, 31, 32, 33, 34, 35, 36, 37, 38, 39, 40, 41, 42, 43, 44, 45, 46, 47, 48, 49, 50, 51, 52, 53, 54, 55, 56, 57, 58, 59, 60, 61, 62, 63, 64, 65, 66, 67, 68, 69, 70, 71, 72, 73, 74, 75, 76, 77, 78, 79, 80, 81, 82, 83, 84, 85, 86, 87, 88, 89, 90, 91, 92, 93, 94, 95, 96, 97, 98, 99, 100, 101, 102, 103, 104, 105, 106, 107, 108, 109, 110, 111, 112, 113, 114, 115, 116, 117, 118, 119, 120, 121, 122, 123, 124, 125, 126, 127, 128, 129, 130, 131, 132, 133, 134, 135, 136, 137, 138, 139, 140, 141, 142, 143, 144, 145, 146, 147, 148, 149, 150, 151, 152, 153, 154, 155, 156, 157, 158, 159, 160, 161, 162, 163, 164, 165, 166, 167, 168, 169, 170, 171] (by decide +kernel) (by decide +kernel)) (goodIn_sub (fun _ h => List.mem_cons_of_mem _ (List.mem_append_left _ (List.mem_append_left _ (List.mem_append_right _ h)))) (by decide +kernel))) (goodIn_sub (fun _ h => List.mem_cons_of_mem _ (List.mem_append_left _ (List.mem_append_right _ h))) (by decide +kernel))) (goodIn_sub (fun _ h => List.mem_cons_of_mem _ (List.mem_append_right _ h)) (by decide +kernel))
set_option maxRecDepth 20000 in
theorem gL_see_X4_see : GoodIn wsL_see (wsV RL 73 RX4 yX4_see wsX4_see) := goodIn_app (goodIn_of _ (by decide +kernel)) ggL_see_X4_see
theorem dL_see_0 : decode cL_see 0 = .ok (.aload 5, 2) := by decide +kernel
theorem dL_see_2 : decode cL_see 2 = .ok (.iconst 0, 1) := by decide +kernel
theorem dL_see_3 : decode cL_see 3 = .ok (.aload_n 0, 1) := by decide +kernel
theorem dL_see_4 : decode cL_see 4 = .ok (.iload_n 1, 1) := by decide +kernel
theorem dL_see_5 : decode cL_see 5 = .ok (.iload_n 2, 1) := by decide +kernel
theorem dL_see_6 : decode cL_see 6 = .ok (.iload_n 3, 1) := by decide +kernel
theorem dL_see_7 : decode cL_see 7 = .ok (.iload 4, 2) := by decide +kernel
theorem dL_see_9 : decode cL_see 9 = .ok (.invokevirtual 73, 3) := by decide +kernel
theorem dL_see_12 : decode cL_see 12 = .ok (.ifCond .eq 7, 3) := by decide +kernel
theorem dL_see_15 : decode cL_see 15 = .ok (.lconst 1, 1) := by decide +kernel
theorem dL_see_16 : decode cL_see 16 = .ok (.goto 4, 3) := by decide +kernel
theorem dL_see_19 : decode cL_see 19 = .ok (.lconst 0, 1) := by decide +kernel
theorem dL_see_20 : decode cL_see 20 = .ok (.lastore, 1) := by decide +kernel
theorem dL_see_21 : decode cL_see 21 = .ok (.goto 15, 3) := by decide +kernel
theorem dL_see_24 : decode cL_see 24 = .ok (.astore 6, 2) := by decide +kernel
theorem dL_see_26 : decode cL_see 26 = .ok (.iconst 1, 1) := by decide +kernel
theorem dL_see_27 : decode cL_see 27 = .ok (.ireturn, 1) := by decide +kernel
theorem dL_see_28 : decode cL_see 28 = .ok (.astore 6, 2) := by decide +kernel
theorem dL_see_30 : decode cL_see 30 = .ok (.iconst 2, 1) := by decide +kernel
theorem dL_see_31 : decode cL_see 31 = .ok (.ireturn, 1) := by decide +kernel
theorem dL_see_32 : decode cL_see 32 = .ok (.astore 6, 2) := by decide +kernel
theorem dL_see_34 : decode cL_see 34 = .ok (.iconst 3, 1) := by decide +kernel
theorem dL_see_35 : decode cL_see 35 = .ok (.ireturn, 1) := by decide +kernel
theorem dL_see_36 : decode cL_see 36 = .ok (.iconst 0, 1) := by decide +kernel
theorem dL_see_37 : decode cL_see 37 = .ok (.ireturn, 1) := by decide +kernel
set_option maxRecDepth 20000 in
theorem ggL_sightings_X4_sightings : GoodIn wsL_sightings wsX4_sightings := goodIn_ca (goodIn_r _ [6, 7, 8, 9, 5, 10, 11, 12, 13, 14, 15, 16, 17, 18, 19, 20, 21, 22, 23, 24, 25, 26, 27, 28, 29, 30, 31, 32, 33, 34, 35, 36, 37, 38, 39, 40, 41, 42, 43, 44, 45, 46, 47, 48, 49, 50, 51, 52, 53, 54, 55, 56, 57, 58, 59, 60] (by decide +kernel) (by decide +kernel)) (goodIn_sub (fun _ h => List.mem_cons_of_mem _ (List.mem_append_right _ h)) (by decide +kernel))
set_option maxRecDepth 20000 in
theorem gL_sightings_X4_sightings : GoodIn wsL_sightings (wsV RL 76 RX4 yX4_sightings wsX4_sightings) := goodIn_app (goodIn_of _ (by decide +kernel)) ggL_sightings_X4_sightings
theorem dL_sightings_0 : decode cL_sightings 0 = .ok (.aload_n 2, 1) := by decide +kernel
theorem dL_sightings_1 : decode cL_sightings 1 = .ok (.iconst 0, 1) := by decide +kernel
theorem dL_sightings_2 : decode cL_sightings 2 = .ok (.aload_n 0, 1) := by decide +kernel
theorem dL_sightings_3 : decode cL_sightings 3 = .ok (.iload_n 1, 1) := by decide +kernel
theorem dL_sightings_4 : decode cL_sightings 4 = .ok (.invokevirtual 76, 3) := by decide +kernel
theorem dL_sightings_7 : decode cL_sightings 7 = .ok (.i2l, 1) := by decide +kernel
theorem dL_sightings_8 : decode cL_sightings 8 = .ok (.lastore, 1) := by decide +kernel
theorem dL_sightings_9 : decode cL_sightings 9 = .ok (.goto 6, 3) := by decide +kernel
theorem dL_sightings_12 : decode cL_sightings 12 = .ok (.astore_n 3, 1) := by decide +kernel
theorem dL_sightings_13 : decode cL_sightings 13 = .ok (.iconst 1, 1) := by decide +kernel
theorem dL_sightings_14 : decode cL_sightings 14 = .ok (.ireturn, 1) := by decide +kernel
theorem dL_sightings_15 : decode cL_sightings 15 = .ok (.iconst 0, 1) := by decide +kernel
theorem dL_sightings_16 : decode cL_sightings 16 = .ok (.ireturn, 1) := by decide +kernel
set_option maxRecDepth 20000 in
theorem ggL_dear_X4_dear : GoodIn wsL_dear wsX4_dear := goodIn_ca (goodIn_r _ [6, 7, 8, 9, 5, 10, 11, 12, 13, 14, 15, 16, 17, 18, 19, 20, 21, 22, 23, 24, 25, 26, 27, 28, 29, 30, 31, 32, 33, 34, 35, 36, 37, 38, 39, 40, 41, 42, 43, 44, 45, 46, 47, 48, 49, 50, 51, 52, 53, 54, 55, 56, 57, 58, 59, 60, 61, 62, 63, 64, 65, 66, 67, 68, 69, 70, 71, 72, 73, 74, 75, 76, 77, 78, 79] (by decide +kernel) (by decide +kernel)) (goodIn_sub (fun _ h => List.mem_cons_of_mem _ (List.mem_append_right _ h)) (by decide +kernel))
set_option maxRecDepth 20000 in
theorem gL_dear_X4_dear : GoodIn wsL_dear (wsV RL 79 RX4 yX4_dear wsX4_dear) := goodIn_app (goodIn_of _ (by decide +kernel)) ggL_dear_X4_dear
theorem dL_dear_0 : decode cL_dear 0 = .ok (.aload_n 2, 1) := by decide +kernel
theorem dL_dear_1 : decode cL_dear 1 = .ok (.iconst 0, 1) := by decide +kernel
theorem dL_dear_2 : decode cL_dear 2 = .ok (.aload_n 0, 1) := by decide +kernel
theorem dL_dear_3 : decode cL_dear 3 = .ok (.iload_n 1, 1) := by decide +kernel
theorem dL_dear_4 : decode cL_dear 4 = .ok (.invokevirtual 79, 3) := by decide +kernel
theorem dL_dear_7 : decode cL_dear 7 = .ok (.i2l, 1) := by decide +kernel
theorem dL_dear_8 : decode cL_dear 8 = .ok (.lastore, 1) := by decide +kernel
theorem dL_dear_9 : decode cL_dear 9 = .ok (.goto 6, 3) := by decide +kernel
theorem dL_dear_12 : decode cL_dear 12 = .ok (.astore_n 3, 1) := by decide +kernel
theorem dL_dear_13 : decode cL_dear 13 = .ok (.iconst 1, 1) := by decide +kernel
theorem dL_dear_14 : decode cL_dear 14 = .ok (.ireturn, 1) := by decide +kernel
theorem dL_dear_15 : decode cL_dear 15 = .ok (.iconst 0, 1) := by decide +kernel
theorem dL_dear_16 : decode cL_dear 16 = .ok (.ireturn, 1) := by decide +kernel
set_option maxRecDepth 20000 in
theorem ggL_target_X4_target : GoodIn wsL_target wsX4_target := goodIn_ca (goodIn_r _ [6, 7, 8, 9, 10, 5, 11, 12, 13, 14, 15, 16, 17, 18, 19, 20, 21, 22, 23, 24, 25, 26, 27, 28, 29, 30, 31, 32, 33, 34, 35, 36, 37, 38, 39, 40, 41, 42, 43, 44, 45, 46, 47, 48, 49, 50, 51, 52, 53, 54, 55, 56, 57, 58, 59, 60, 61, 62, 63, 64, 65, 66, 67, 68, 69, 70, 71, 72, 73, 74, 75, 76, 77, 78, 79, 80, 81, 82, 83, 84, 85, 86, 87, 88, 89, 90, 91, 92, 93, 94, 95, 96, 97, 98, 99, 100, 101, 102, 103, 104, 105, 106, 107, 108, 109, 110, 111, 112] (by decide +kernel) (by decide +kernel)) (goodIn_sub (fun _ h => List.mem_cons_of_mem _ (List.mem_append_right _ h)) (by decide +kernel))
set_option maxRecDepth 20000 in
theorem gL_target_X4_target : GoodIn wsL_target (wsV RL 82 RX4 yX4_target wsX4_target) := goodIn_app (goodIn_of _ (by decide +kernel)) ggL_target_X4_target
theorem dL_target_0 : decode cL_target 0 = .ok (.aload_n 2, 1) := by decide +kernel
theorem dL_target_1 : decode cL_target 1 = .ok (.iconst 0, 1) := by decide +kernel
theorem dL_target_2 : decode cL_target 2 = .ok (.aload_n 0, 1) := by decide +kernel
theorem dL_target_3 : decode cL_target 3 = .ok (.iload_n 1, 1) := by decide +kernel
theorem dL_target_4 : decode cL_target 4 = .ok (.invokevirtual 82, 3) := by decide +kernel
theorem dL_target_7 : decode cL_target 7 = .ok (.i2l, 1) := by decide +kernel
theorem dL_target_8 : decode cL_target 8 = .ok (.lastore, 1) := by decide +kernel
theorem dL_target_9 : decode cL_target 9 = .ok (.goto 6, 3) := by decide +kernel
theorem dL_target_12 : decode cL_target 12 = .ok (.astore_n 3, 1) := by decide +kernel
theorem dL_target_13 : decode cL_target 13 = .ok (.iconst 1, 1) := by decide +kernel
theorem dL_target_14 : decode cL_target 14 = .ok (.ireturn, 1) := by decide +kernel
theorem dL_target_15 : decode cL_target 15 = .ok (.iconst 0, 1) := by decide +kernel
theorem dL_target_16 : decode cL_target 16 = .ok (.ireturn, 1) := by decide +kernel
set_option maxRecDepth 20000 in
theorem ggL_send_X4_send : GoodIn wsL_send wsX4_send := goodIn_ca (goodIn_ca (goodIn_r _ [7, 8, 9, 10, 11, 12, 13, 14, 15, 16, 17, 6, 18, 19, 20, 21, 22, 23, 24, 25, 26, 27, 28, 29, 30, 31, 32, 33, 34, 35, 36, 37, 38, 39, 40, 41, 42, 43, 44, 45, 46, 47, 48, 49, 50, 51, 52, 53, 54, 55, 56, 57, 58, 59, 60, 61, 62, 63, 64, 65, 66, 67, 68, 69, 70, 71, 72, 73, 74, 75, 76, 77, 78, 79, 80, 81, 82, 83, 84, 85, 86, 87, 88, 89, 90, 91, 92, 93, 94, 95, 96, 97, 98, 99, 100, 101, 102, 103, 104, 105, 106, 107, 108, 109, 110, 111, 112, 113, 114, 115, 116, 117, 118, 119, 120, 121, 122, 123, 124, 125] (by decide +kernel) (by decide +kernel)) (goodIn_sub (fun _ h => List.mem_cons_of_mem _ (List.mem_append_left _ (List.mem_append_right _ h))) (by decide +kernel))) (goodIn_sub (fun _ h => List.mem_cons_of_mem _ (List.mem_append_right _ h)) (by decide +kernel))
set_option maxRecDepth 20000 in
theorem gL_send_X4_send : GoodIn wsL_send (wsV RL 85 RX4 yX4_send wsX4_send) := goodIn_app (goodIn_of _ (by decide +kernel)) ggL_send_X4_send
theorem dL_send_0 : decode cL_send 0 = .ok (.aload_n 2, 1) := by decide +kernel
theorem dL_send_1 : decode cL_send 1 = .ok (.iconst 0, 1) := by decide +kernel
theorem dL_send_2 : decode cL_send 2 = .ok (.aload_n 0, 1) := by decide +kernel
theorem dL_send_3 : decode cL_send 3 = .ok (.iload_n 1, 1) := by decide +kernel
theorem dL_send_4 : decode cL_send 4 = .ok (.invokevirtual 85, 3) := by decide +kernel
theorem dL_send_7 : decode cL_send 7 = .ok (.i2l, 1) := by decide +kernel
theorem dL_send_8 : decode cL_send 8 = .ok (.lastore, 1) := by decide +kernel
theorem dL_send_9 : decode cL_send 9 = .ok (.goto 9, 3) := by decide +kernel
theorem dL_send_12 : decode cL_send 12 = .ok (.astore_n 3, 1) := by decide +kernel
theorem dL_send_13 : decode cL_send 13 = .ok (.iconst 1, 1) := by decide +kernel
theorem dL_send_14 : decode cL_send 14 = .ok (.ireturn, 1) := by decide +kernel
theorem dL_send_15 : decode cL_send 15 = .ok (.astore_n 3, 1) := by decide +kernel
theorem dL_send_16 : decode cL_send 16 = .ok (.iconst 2, 1) := by decide +kernel
theorem dL_send_17 : decode cL_send 17 = .ok (.ireturn, 1) := by decide +kernel
theorem dL_send_18 : decode cL_send 18 = .ok (.iconst 0, 1) := by decide +kernel
theorem dL_send_19 : decode cL_send 19 = .ok (.ireturn, 1) := by decide +kernel
set_option maxRecDepth 20000 in
theorem ggL_carAt_X4_carAt : GoodIn wsL_carAt wsX4_carAt := goodIn_ca (goodIn_r _ [6, 7, 8, 9, 10, 5, 11, 12, 13, 14, 15, 16, 17, 18, 19, 20, 21, 22] (by decide +kernel) (by decide +kernel)) (goodIn_sub (fun _ h => List.mem_cons_of_mem _ (List.mem_append_right _ h)) (by decide +kernel))
set_option maxRecDepth 20000 in
theorem gL_carAt_X4_carAt : GoodIn wsL_carAt (wsV RL 88 RX4 yX4_carAt wsX4_carAt) := goodIn_app (goodIn_of _ (by decide +kernel)) ggL_carAt_X4_carAt
theorem dL_carAt_0 : decode cL_carAt 0 = .ok (.aload_n 2, 1) := by decide +kernel
theorem dL_carAt_1 : decode cL_carAt 1 = .ok (.iconst 0, 1) := by decide +kernel
theorem dL_carAt_2 : decode cL_carAt 2 = .ok (.aload_n 0, 1) := by decide +kernel
theorem dL_carAt_3 : decode cL_carAt 3 = .ok (.iload_n 1, 1) := by decide +kernel
theorem dL_carAt_4 : decode cL_carAt 4 = .ok (.invokevirtual 88, 3) := by decide +kernel
theorem dL_carAt_7 : decode cL_carAt 7 = .ok (.i2l, 1) := by decide +kernel
theorem dL_carAt_8 : decode cL_carAt 8 = .ok (.lastore, 1) := by decide +kernel
theorem dL_carAt_9 : decode cL_carAt 9 = .ok (.goto 6, 3) := by decide +kernel
theorem dL_carAt_12 : decode cL_carAt 12 = .ok (.astore_n 3, 1) := by decide +kernel
theorem dL_carAt_13 : decode cL_carAt 13 = .ok (.iconst 1, 1) := by decide +kernel
theorem dL_carAt_14 : decode cL_carAt 14 = .ok (.ireturn, 1) := by decide +kernel
theorem dL_carAt_15 : decode cL_carAt 15 = .ok (.iconst 0, 1) := by decide +kernel
theorem dL_carAt_16 : decode cL_carAt 16 = .ok (.ireturn, 1) := by decide +kernel
set_option maxRecDepth 20000 in
theorem ggL_law_X4_init : GoodIn wsL_law wsX4_init := goodIn_r _ [9, 10, 11, 12, 13, 14, 15, 16, 17, 18, 19, 20, 21, 22, 23, 24, 25, 26, 27, 28, 29, 30, 31, 32, 33, 34, 35, 36, 37, 38, 39, 40, 41, 42, 787, 788, 789, 761, 762, 763, 764, 765, 766] (by decide +kernel) (by decide +kernel)
set_option maxRecDepth 20000 in
theorem gL_law_X4_init : GoodIn wsL_law (wsX4_init) := ggL_law_X4_init
set_option maxRecDepth 20000 in
theorem ggL_law_X5_init : GoodIn wsL_law wsX5_init := goodIn_r _ [45, 46, 11, 12, 17, 47, 48, 49, 50, 51, 52, 53, 54, 55, 56, 57, 58, 59, 60, 61, 62, 63, 767, 768, 769, 770, 771, 772, 773, 774, 775, 776, 777, 778, 779, 780, 781, 782, 783, 784, 785, 786] (by decide +kernel) (by decide +kernel)
set_option maxRecDepth 20000 in
theorem gL_law_X5_init : GoodIn wsL_law (wsX5_init) := ggL_law_X5_init
set_option maxRecDepth 20000 in
theorem ggL_law_L_addWay : GoodIn wsL_law wsL_addWay := goodIn_ca (goodIn_ca (goodIn_ca (goodIn_r _ [67, 68, 69, 70, 71, 72, 73, 2, 74, 75, 76, 77, 78, 16, 79, 80, 81, 82, 83, 84, 85, 86, 87, 88, 89, 90, 91, 92, 93, 94, 95, 96, 97, 98, 99, 100, 101, 15, 102, 103, 104, 105, 106, 107, 23, 108, 109, 110, 111, 11, 12, 112, 113, 114, 115, 116, 117, 118, 119, 120, 121, 122, 123, 124, 125, 126, 127, 128, 129, 130, 131, 132, 133, 134, 135, 17, 136, 137, 138, 139, 140, 141, 142, 40, 41, 42, 143, 144, 145, 146, 147, 148, 28, 149, 150, 151, 152, 153, 154, 155, 156, 157, 158, 159, 160, 27, 161, 162, 163, 164, 165, 166, 167, 168, 169, 170, 171, 172, 173, 174, 175, 176, 177, 178, 179, 180, 181, 182, 183, 184, 185, 186, 187, 188, 189, 190, 191, 192, 193, 761, 762, 763, 764, 765, 766, 790, 791, 792, 793, 794, 795, 796, 797, 798, 799, 800, 787, 788, 789, 801, 802, 803, 804] (by decide +kernel) (by decide +kernel)) (goodIn_sub (fun _ h => List.mem_append_left _ (List.mem_append_left _ (List.mem_append_right _ h))) (by decide +kernel))) (goodIn_sub (fun _ h => List.mem_append_left _ (List.mem_append_right _ h)) (by decide +kernel))) (goodIn_sub (fun _ h => List.mem_append_right _ h) (by decide +kernel))
set_option maxRecDepth 20000 in
theorem gL_law_L_addWay : GoodIn wsL_law (va_wsS RL 95 yL_addWay wsL_addWay) := goodIn_app (goodIn_of _ (by decide +kernel)) ggL_law_L_addWay
set_option maxRecDepth 20000 in
theorem ggL_law_X5_addWay : GoodIn wsL_law wsX5_addWay := goodIn_r _ [197, 198, 48, 49, 50, 51, 199, 200, 5, 201, 202, 203, 204, 205, 206, 207, 208, 209, 210, 211, 212, 213, 214, 215, 216, 217, 218, 219, 220, 56, 221, 57, 53, 54, 55, 767, 768, 769, 770, 771, 772, 773, 774, 775, 776, 777, 778, 779, 780, 781, 782, 783, 784, 785, 786] (by decide +kernel) (by decide +kernel)
set_option maxRecDepth 20000 in
theorem gL_law_X5_addWay : GoodIn wsL_law (wsV RL 100 RX5 yX5_addWay wsX5_addWay) := goodIn_app (goodIn_of _ (by decide +kernel)) ggL_law_X5_addWay
set_option maxRecDepth 20000 in
theorem ggL_law_X5_thrown : GoodIn wsL_law wsX5_thrown := goodIn_r _ [225, 212, 767, 768, 769, 770, 771, 772, 773, 774, 775, 776, 777, 778, 779, 780, 781, 782, 783, 784, 785, 786] (by decide +kernel) (by decide +kernel)
set_option maxRecDepth 20000 in
theorem gL_law_X5_thrown : GoodIn wsL_law (wsV RL 101 RX5 yX5_thrown wsX5_thrown) := goodIn_app (goodIn_of _ (by decide +kernel)) ggL_law_X5_thrown
set_option maxRecDepth 20000 in
theorem ggL_law_L_edit : GoodIn wsL_law wsL_edit := goodIn_ca (goodIn_ca (goodIn_ca (goodIn_r _ [228, 68, 69, 70, 229, 230, 231, 2, 232, 75, 76, 77, 78, 82, 83, 84, 18, 233, 234, 85, 86, 87, 88, 89, 90, 91, 92, 235, 236, 237, 238, 16, 239, 99, 100, 101, 15, 102, 103, 240, 241, 242, 243, 244, 245, 246, 247, 248, 249, 250, 251, 252, 253, 254, 255, 28, 96, 97, 98, 256, 257, 258, 259, 260, 261, 81, 262, 141, 263, 264, 265, 266, 267, 268, 269, 104, 105, 106, 107, 23, 108, 109, 110, 111, 11, 12, 112, 113, 114, 270, 271, 272, 273, 274, 115, 116, 117, 118, 119, 120, 121, 122, 123, 124, 125, 126, 127, 128, 129, 798, 799, 800, 761, 762, 763, 764, 765, 766, 790, 791, 792, 793, 794, 795, 796, 797, 787, 788, 789, 801, 802, 803, 804] (by decide +kernel) (by decide +kernel)) (goodIn_sub (fun _ h => List.mem_append_left _ (List.mem_append_left _ (List.mem_append_right _ h))) (by decide +kernel))) (goodIn_sub (fun _ h => List.mem_append_left _ (List.mem_append_right _ h)) (by decide +kernel))) (goodIn_sub (fun _ h => List.mem_append_right _ h) (by decide +kernel))
set_option maxRecDepth 20000 in
theorem gL_law_L_edit : GoodIn wsL_law (va_wsS RL 105 yL_edit wsL_edit) := goodIn_app (goodIn_of _ (by decide +kernel)) ggL_law_L_edit
set_option maxRecDepth 20000 in
theorem ggL_law_X5_edit : GoodIn wsL_law wsX5_edit := goodIn_r _ [278, 212, 47, 52, 55, 202, 203, 5, 204, 279, 280, 281, 282, 198, 208, 209, 210, 211, 199, 200, 201, 283, 284, 285, 286, 56, 54, 287, 288, 289, 290, 217, 218, 219, 220, 221, 57, 53, 767, 768, 769, 770, 771, 772, 773, 774, 775, 776, 777, 778, 779, 780, 781, 782, 783, 784, 785, 786] (by decide +kernel) (by decide +kernel)
set_option maxRecDepth 20000 in
theorem gL_law_X5_edit : GoodIn wsL_law (wsV RL 108 RX5 yX5_edit wsX5_edit) := goodIn_app (goodIn_of _ (by decide +kernel)) ggL_law_X5_edit
set_option maxRecDepth 20000 in
theorem ggL_law_L_judge : GoodIn wsL_law wsL_judge := goodIn_ca (goodIn_ca (goodIn_r _ [293, 68, 70, 294, 295, 296, 2, 297, 77, 78, 234, 298, 18, 233, 85, 86, 87, 88, 89, 90, 91, 92, 235, 236, 237, 238, 16, 239, 99, 100, 101, 15, 102, 103, 240, 241, 242, 243, 244, 245, 246, 247, 248, 249, 250, 251, 252, 253, 254, 255, 28, 104, 105, 106, 107, 23, 299, 300, 301, 302, 303, 188, 163, 189, 304, 162, 164, 270, 271, 272, 273, 274, 115, 116, 117, 118, 119, 120, 121, 122, 123, 124, 125, 11, 12, 126, 127, 128, 129, 790, 791, 792, 793, 794, 795, 796, 797, 798, 799, 800, 761, 762, 763, 764, 765, 766, 787, 788, 789, 801, 802, 803, 804] (by decide +kernel) (by decide +kernel)) (goodIn_sub (fun _ h => List.mem_append_left _ (List.mem_append_right _ h)) (by decide +kernel))) (goodIn_sub (fun _ h => List.mem_append_right _ h) (by decide +kernel))
set_option maxRecDepth 20000 in
theorem gL_law_L_judge : GoodIn wsL_law (va_wsS RL 109 yL_judge wsL_judge) := goodIn_app (goodIn_of _ (by decide +kernel)) ggL_law_L_judge
set_option maxRecDepth 20000 in
theorem ggL_law_X5_judge : GoodIn wsL_law wsX5_judge := goodIn_r _ [308, 55, 47, 52, 202, 203, 5, 204, 279, 280, 281, 282, 198, 208, 209, 210, 211, 212, 213, 214, 215, 216, 309, 310, 311, 312, 217, 218, 219, 220, 56, 221, 57, 53, 54, 767, 768, 769, 770, 771, 772, 773, 774, 775, 776, 777, 778, 779, 780, 781, 782, 783, 784, 785, 786] (by decide +kernel) (by decide +kernel)
set_option maxRecDepth 20000 in
theorem gL_law_X5_judge : GoodIn wsL_law (wsV RL 112 RX5 yX5_judge wsX5_judge) := goodIn_app (goodIn_of _ (by decide +kernel)) ggL_law_X5_judge
set_option maxRecDepth 20000 in
theorem ggL_law_L_revert : GoodIn wsL_law wsL_revert := goodIn_ca (goodIn_ca (goodIn_r _ [315, 68, 70, 316, 317, 318, 2, 319, 77, 78, 274, 320, 321, 298, 18, 82, 83, 84, 322, 323, 85, 86, 87, 88, 89, 90, 91, 92, 235, 236, 237, 238, 16, 239, 99, 100, 101, 15, 102, 103, 240, 241, 242, 243, 244, 245, 246, 247, 248, 249, 250, 251, 252, 253, 254, 255, 28, 104, 105, 106, 107, 23, 108, 109, 110, 111, 11, 12, 112, 113, 114, 270, 271, 272, 273, 234, 115, 116, 117, 118, 119, 120, 121, 122, 123, 124, 125, 126, 127, 128, 129, 299, 300, 301, 302, 303, 188, 163, 189, 304, 162, 164, 790, 791, 792, 793, 794, 795, 796, 797, 801, 802, 803, 804, 798, 799, 800, 761, 762, 763, 764, 765, 766, 787, 788, 789] (by decide +kernel) (by decide +kernel)) (goodIn_sub (fun _ h => List.mem_append_left _ (List.mem_append_right _ h)) (by decide +kernel))) (goodIn_sub (fun _ h => List.mem_append_right _ h) (by decide +kernel))
set_option maxRecDepth 20000 in
theorem gL_law_L_revert : GoodIn wsL_law (va_wsS RL 113 yL_revert wsL_revert) := goodIn_app (goodIn_of _ (by decide +kernel)) ggL_law_L_revert
set_option maxRecDepth 20000 in
theorem ggL_law_X5_revert : GoodIn wsL_law wsX5_revert := goodIn_r _ [327, 56, 54, 53, 47, 57, 202, 203, 5, 204, 279, 280, 281, 282, 198, 208, 209, 210, 211, 212, 213, 214, 215, 216, 217, 218, 219, 220, 221, 55, 309, 310, 311, 312, 767, 768, 769, 770, 771, 772, 773, 774, 775, 776, 777, 778, 779, 780, 781, 782, 783, 784, 785, 786] (by decide +kernel) (by decide +kernel)
set_option maxRecDepth 20000 in
theorem gL_law_X5_revert : GoodIn wsL_law (wsV RL 116 RX5 yX5_revert wsX5_revert) := goodIn_app (goodIn_of _ (by decide +kernel)) ggL_law_X5_revert
set_option maxRecDepth 20000 in
theorem ggL_law_L_guard : GoodIn wsL_law wsL_guard := goodIn_ca (goodIn_ca (goodIn_r _ [330, 68, 69, 331, 332, 333, 2, 334, 75, 76, 233, 235, 236, 237, 238, 88, 89, 16, 239, 99, 100, 101, 15, 102, 103, 240, 241, 242, 243, 244, 245, 246, 247, 248, 249, 250, 251, 252, 253, 254, 255, 28, 90, 91, 92, 790, 791, 792, 793, 794, 795, 796, 797, 761, 762, 763, 764, 765, 766, 787, 788, 789] (by decide +kernel) (by decide +kernel)) (goodIn_sub (fun _ h => List.mem_append_left _ (List.mem_append_left _ (List.mem_append_right _ h))) (by decide +kernel))) (goodIn_sub (fun _ h => List.mem_append_right _ h) (by decide +kernel))
set_option maxRecDepth 20000 in
theorem gL_law_L_guard : GoodIn wsL_law (va_wsS RL 117 yL_guard wsL_guard) := goodIn_app (goodIn_of _ (by decide +kernel)) ggL_law_L_guard
set_option maxRecDepth 20000 in
theorem ggL_law_X5_guard : GoodIn wsL_law wsX5_guard := goodIn_r _ [338, 52, 279, 280, 281, 5, 282, 198, 208, 209, 210, 211, 212, 199, 200, 201, 213, 214, 215, 216, 767, 768, 769, 770, 771, 772, 773, 774, 775, 776, 777, 778, 779, 780, 781, 782, 783, 784, 785, 786] (by decide +kernel) (by decide +kernel)
set_option maxRecDepth 20000 in
theorem gL_law_X5_guard : GoodIn wsL_law (wsV RL 119 RX5 yX5_guard wsX5_guard) := goodIn_app (goodIn_of _ (by decide +kernel)) ggL_law_X5_guard
set_option maxRecDepth 20000 in
theorem ggL_law_L_trust : GoodIn wsL_law wsL_trust := goodIn_ca (goodIn_r _ [341, 68, 342, 343, 344, 2, 345, 18, 85, 86, 87, 88, 89, 90, 91, 92, 761, 762, 763, 764, 765, 766] (by decide +kernel) (by decide +kernel)) (goodIn_sub (fun _ h => List.mem_append_right _ h) (by decide +kernel))
set_option maxRecDepth 20000 in
theorem gL_law_L_trust : GoodIn wsL_law (va_wsS RL 120 yL_trust wsL_trust) := goodIn_app (goodIn_of _ (by decide +kernel)) ggL_law_L_trust
set_option maxRecDepth 20000 in
theorem ggL_law_X5_trust : GoodIn wsL_law wsX5_trust := goodIn_r _ [349, 47, 202, 203, 5, 204, 208, 209, 210, 211, 212, 767, 768, 769, 770, 771, 772, 773, 774, 775, 776, 777, 778, 779, 780, 781, 782, 783, 784, 785, 786] (by decide +kernel) (by decide +kernel)
set_option maxRecDepth 20000 in
theorem gL_law_X5_trust : GoodIn wsL_law (wsV RL 123 RX5 yX5_trust wsX5_trust) := goodIn_app (goodIn_of _ (by decide +kernel)) ggL_law_X5_trust
set_option maxRecDepth 20000 in
theorem ggL_law_X4_ways : GoodIn wsL_law wsX4_ways := goodIn_r _ [353, 16, 99, 100, 101, 15, 102, 103, 761, 762, 763, 764, 765, 766, 787, 788, 789] (by decide +kernel) (by decide +kernel)
set_option maxRecDepth 20000 in
theorem gL_law_X4_ways : GoodIn wsL_law (wsV RL 124 RX4 yX4_ways wsX4_ways) := goodIn_app (goodIn_of _ (by decide +kernel)) ggL_law_X4_ways
set_option maxRecDepth 20000 in
theorem ggL_law_X5_ways : GoodIn wsL_law wsX5_ways := goodIn_r _ [357, 212, 198, 767, 768, 769, 770, 771, 772, 773, 774, 775, 776, 777, 778, 779, 780, 781, 782, 783, 784, 785, 786] (by decide +kernel) (by decide +kernel)
set_option maxRecDepth 20000 in
theorem gL_law_X5_ways : GoodIn wsL_law (wsV RL 127 RX5 yX5_ways wsX5_ways) := goodIn_app (goodIn_of _ (by decide +kernel)) ggL_law_X5_ways
set_option maxRecDepth 20000 in
theorem ggL_law_L_versions : GoodIn wsL_law wsL_versions := goodIn_ca (goodIn_r _ [360, 68, 361, 362, 363, 2, 364, 235, 236, 237, 238, 88, 89, 16, 239, 99, 100, 101, 15, 102, 103, 240, 241, 242, 243, 244, 245, 246, 247, 248, 249, 250, 251, 252, 253, 254, 255, 28, 365, 366, 367, 81, 368, 141, 369, 761, 762, 763, 764, 765, 766, 787, 788, 789, 790, 791, 792, 793, 794, 795, 796, 797, 801, 802, 803, 804] (by decide +kernel) (by decide +kernel)) (goodIn_sub (fun _ h => List.mem_append_right _ h) (by decide +kernel))
set_option maxRecDepth 20000 in
theorem gL_law_L_versions : GoodIn wsL_law (va_wsS RL 128 yL_versions wsL_versions) := goodIn_app (goodIn_of _ (by decide +kernel)) ggL_law_L_versions
set_option maxRecDepth 20000 in
theorem ggL_law_X5_versions : GoodIn wsL_law wsX5_versions := goodIn_r _ [373, 53, 279, 280, 281, 5, 282, 198, 208, 209, 210, 211, 212, 767, 768, 769, 770, 771, 772, 773, 774, 775, 776, 777, 778, 779, 780, 781, 782, 783, 784, 785, 786] (by decide +kernel) (by decide +kernel)
set_option maxRecDepth 20000 in
theorem gL_law_X5_versions : GoodIn wsL_law (wsV RL 130 RX5 yX5_versions wsX5_versions) := goodIn_app (goodIn_of _ (by decide +kernel)) ggL_law_X5_versions
set_option maxRecDepth 20000 in
theorem ggL_law_L_version : GoodIn wsL_law wsL_version := goodIn_ca (goodIn_r _ [376, 68, 377, 378, 379, 2, 380, 321, 235, 236, 237, 238, 88, 89, 16, 239, 99, 100, 101, 15, 102, 103, 240, 241, 242, 243, 244, 245, 246, 247, 248, 249, 250, 251, 252, 253, 254, 255, 28, 381, 382, 383, 274, 384, 320, 385, 386, 387, 84, 388, 112, 113, 114, 801, 802, 803, 804, 761, 762, 763, 764, 765, 766, 787, 788, 789, 790, 791, 792, 793, 794, 795, 796, 797, 798, 799, 800] (by decide +kernel) (by decide +kernel)) (goodIn_sub (fun _ h => List.mem_append_right _ h) (by decide +kernel))
set_option maxRecDepth 20000 in
theorem gL_law_L_version : GoodIn wsL_law (va_wsS RL 131 yL_version wsL_version) := goodIn_app (goodIn_of _ (by decide +kernel)) ggL_law_L_version
set_option maxRecDepth 20000 in
theorem ggL_law_X5_version : GoodIn wsL_law wsX5_version := goodIn_r _ [392, 56, 393, 394, 395, 5, 396, 53, 54, 57, 279, 280, 281, 282, 198, 208, 209, 210, 211, 212, 767, 768, 769, 770, 771, 772, 773, 774, 775, 776, 777, 778, 779, 780, 781, 782, 783, 784, 785, 786] (by decide +kernel) (by decide +kernel)
set_option maxRecDepth 20000 in
theorem gL_law_X5_version : GoodIn wsL_law (wsV RL 133 RX5 yX5_version wsX5_version) := goodIn_app (goodIn_of _ (by decide +kernel)) ggL_law_X5_version
set_option maxRecDepth 20000 in
theorem ggL_law_L_stampOf : GoodIn wsL_law wsL_stampOf := goodIn_ca (goodIn_r _ [399, 68, 400, 401, 402, 2, 403, 404, 235, 236, 237, 238, 88, 89, 16, 239, 99, 100, 101, 15, 102, 103, 240, 241, 242, 243, 244, 245, 246, 247, 248, 249, 250, 251, 252, 253, 254, 255, 28, 381, 382, 383, 274, 384, 320, 801, 802, 803, 804, 761, 762, 763, 764, 765, 766, 787, 788, 789, 790, 791, 792, 793, 794, 795, 796, 797] (by decide +kernel) (by decide +kernel)) (goodIn_sub (fun _ h => List.mem_append_right _ h) (by decide +kernel))
set_option maxRecDepth 20000 in
theorem gL_law_L_stampOf : GoodIn wsL_law (va_wsS RL 134 yL_stampOf wsL_stampOf) := goodIn_app (goodIn_of _ (by decide +kernel)) ggL_law_L_stampOf
set_option maxRecDepth 20000 in
theorem ggL_law_X5_stampOf : GoodIn wsL_law wsX5_stampOf := goodIn_r _ [408, 393, 394, 395, 5, 396, 53, 54, 57, 279, 280, 281, 282, 198, 208, 209, 210, 211, 212, 767, 768, 769, 770, 771, 772, 773, 774, 775, 776, 777, 778, 779, 780, 781, 782, 783, 784, 785, 786] (by decide +kernel) (by decide +kernel)
set_option maxRecDepth 20000 in
theorem gL_law_X5_stampOf : GoodIn wsL_law (wsV RL 136 RX5 yX5_stampOf wsX5_stampOf) := goodIn_app (goodIn_of _ (by decide +kernel)) ggL_law_X5_stampOf
set_option maxRecDepth 20000 in
theorem ggL_law_L_waiting : GoodIn wsL_law wsL_waiting := goodIn_ca (goodIn_r _ [411, 68, 412, 413, 414, 2, 415, 234, 235, 236, 237, 238, 88, 89, 16, 239, 99, 100, 101, 15, 102, 103, 240, 241, 242, 243, 244, 245, 246, 247, 248, 249, 250, 251, 252, 253, 254, 255, 28, 385, 386, 387, 84, 388, 112, 113, 114, 790, 791, 792, 793, 794, 795, 796, 797, 761, 762, 763, 764, 765, 766, 787, 788, 789, 798, 799, 800] (by decide +kernel) (by decide +kernel)) (goodIn_sub (fun _ h => List.mem_append_right _ h) (by decide +kernel))
set_option maxRecDepth 20000 in
theorem gL_law_L_waiting : GoodIn wsL_law (va_wsS RL 137 yL_waiting wsL_waiting) := goodIn_app (goodIn_of _ (by decide +kernel)) ggL_law_L_waiting
set_option maxRecDepth 20000 in
theorem ggL_law_X5_waiting : GoodIn wsL_law wsX5_waiting := goodIn_r _ [419, 55, 279, 280, 281, 5, 282, 198, 208, 209, 210, 211, 212, 767, 768, 769, 770, 771, 772, 773, 774, 775, 776, 777, 778, 779, 780, 781, 782, 783, 784, 785, 786] (by decide +kernel) (by decide +kernel)
set_option maxRecDepth 20000 in
theorem gL_law_X5_waiting : GoodIn wsL_law (wsV RL 139 RX5 yX5_waiting wsX5_waiting) := goodIn_app (goodIn_of _ (by decide +kernel)) ggL_law_X5_waiting
set_option maxRecDepth 20000 in
theorem ggL_law_X4_clock : GoodIn wsL_law wsX4_clock := goodIn_r _ [423, 23, 761, 762, 763, 764, 765, 766] (by decide +kernel) (by decide +kernel)
set_option maxRecDepth 20000 in
theorem gL_law_X4_clock : GoodIn wsL_law (wsV RL 140 RX4 yX4_clock wsX4_clock) := goodIn_app (goodIn_of _ (by decide +kernel)) ggL_law_X4_clock
set_option maxRecDepth 20000 in
theorem ggL_law_X5_clock : GoodIn wsL_law wsX5_clock := goodIn_r _ [427, 212, 221, 767, 768, 769, 770, 771, 772, 773, 774, 775, 776, 777, 778, 779, 780, 781, 782, 783, 784, 785, 786] (by decide +kernel) (by decide +kernel)
set_option maxRecDepth 20000 in
theorem gL_law_X5_clock : GoodIn wsL_law (wsV RL 143 RX5 yX5_clock wsX5_clock) := goodIn_app (goodIn_of _ (by decide +kernel)) ggL_law_X5_clock
set_option maxRecDepth 20000 in
theorem ggL_law_L_draw : GoodIn wsL_law wsL_draw := goodIn_ca (goodIn_r _ [430, 68, 431, 432, 433, 2, 434, 22, 21, 435, 436, 437, 438, 439, 88, 89, 440, 441, 442, 443, 90, 91, 92, 444, 445, 446, 447, 448, 449, 450, 11, 12, 451, 452, 453, 454, 455, 456, 457, 458, 459, 460, 461, 23, 462, 463, 464, 465, 466, 467, 16, 239, 322, 323, 99, 100, 101, 15, 102, 103, 240, 241, 242, 243, 244, 245, 246, 247, 248, 249, 250, 251, 252, 253, 254, 255, 28, 468, 469, 470, 81, 471, 141, 472, 473, 263, 474, 475, 476, 477, 137, 478, 139, 479, 138, 480, 140, 481, 482, 483, 484, 485, 486, 487, 488, 489, 490, 491, 761, 762, 763, 764, 765, 766, 805, 806, 807, 808, 809, 810, 811, 798, 799, 800, 787, 788, 789, 790, 791, 792, 793, 794, 795, 796, 797, 801, 802, 803, 804] (by decide +kernel) (by decide +kernel)) (goodIn_sub (fun _ h => List.mem_append_right _ h) (by decide +kernel))
set_option maxRecDepth 20000 in
theorem gL_law_L_draw : GoodIn wsL_law (va_wsS RL 144 yL_draw wsL_draw) := goodIn_app (goodIn_of _ (by decide +kernel)) ggL_law_L_draw
set_option maxRecDepth 20000 in
theorem ggL_law_X5_draw : GoodIn wsL_law wsX5_draw := goodIn_r _ [495, 198, 56, 54, 496, 497, 498, 5, 499, 199, 200, 201, 208, 209, 210, 211, 212, 500, 501, 502, 503, 59, 221, 58, 504, 505, 506, 507, 57, 508, 509, 510, 511, 512, 513, 514, 48, 50, 49, 51, 767, 768, 769, 770, 771, 772, 773, 774, 775, 776, 777, 778, 779, 780, 781, 782, 783, 784, 785, 786] (by decide +kernel) (by decide +kernel)
set_option maxRecDepth 20000 in
theorem gL_law_X5_draw : GoodIn wsL_law (wsV RL 147 RX5 yX5_draw wsX5_draw) := goodIn_app (goodIn_of _ (by decide +kernel)) ggL_law_X5_draw
set_option maxRecDepth 20000 in
theorem ggL_law_L_picture : GoodIn wsL_law wsL_picture := goodIn_ca (goodIn_ca (goodIn_r _ [517, 68, 70, 518, 519, 520, 2, 521, 463, 522, 523, 524, 525, 77, 78, 22, 437, 438, 439, 88, 89, 440, 441, 442, 443, 90, 91, 92, 444, 445, 446, 805, 806, 807, 808, 809, 810, 811, 761, 762, 763, 764, 765, 766] (by decide +kernel) (by decide +kernel)) (goodIn_sub (fun _ h => List.mem_append_left _ (List.mem_append_right _ h)) (by decide +kernel))) (goodIn_sub (fun _ h => List.mem_append_right _ h) (by decide +kernel))
set_option maxRecDepth 20000 in
theorem gL_law_L_picture : GoodIn wsL_law (va_wsS RL 148 yL_picture wsL_picture) := goodIn_app (goodIn_of _ (by decide +kernel)) ggL_law_L_picture
set_option maxRecDepth 20000 in
theorem ggL_law_X5_picture : GoodIn wsL_law wsX5_picture := goodIn_r _ [529, 58, 59, 496, 497, 498, 5, 499, 199, 200, 201, 208, 209, 210, 211, 212, 213, 214, 215, 216, 767, 768, 769, 770, 771, 772, 773, 774, 775, 776, 777, 778, 779, 780, 781, 782, 783, 784, 785, 786] (by decide +kernel) (by decide +kernel)
set_option maxRecDepth 20000 in
theorem gL_law_X5_picture : GoodIn wsL_law (wsV RL 150 RX5 yX5_picture wsX5_picture) := goodIn_app (goodIn_of _ (by decide +kernel)) ggL_law_X5_picture
set_option maxRecDepth 20000 in
theorem ggL_law_L_pictureAnew : GoodIn wsL_law wsL_pictureAnew := goodIn_ca (goodIn_ca (goodIn_r _ [532, 68, 70, 533, 534, 535, 2, 536, 462, 522, 523, 524, 525, 77, 78, 22, 437, 438, 439, 88, 89, 440, 441, 442, 443, 90, 91, 92, 444, 445, 446, 464, 465, 466, 467, 16, 239, 322, 323, 99, 100, 101, 15, 102, 103, 240, 241, 242, 243, 244, 245, 246, 247, 248, 249, 250, 251, 252, 253, 254, 255, 28, 468, 469, 470, 81, 471, 141, 472, 473, 263, 474, 475, 476, 477, 137, 478, 139, 479, 138, 480, 140, 481, 482, 483, 484, 436, 485, 486, 487, 453, 805, 806, 807, 808, 809, 810, 811, 761, 762, 763, 764, 765, 766, 798, 799, 800, 787, 788, 789, 790, 791, 792, 793, 794, 795, 796, 797, 801, 802, 803, 804] (by decide +kernel) (by decide +kernel)) (goodIn_sub (fun _ h => List.mem_append_left _ (List.mem_append_right _ h)) (by decide +kernel))) (goodIn_sub (fun _ h => List.mem_append_right _ h) (by decide +kernel))
set_option maxRecDepth 20000 in
theorem gL_law_L_pictureAnew : GoodIn wsL_law (va_wsS RL 151 yL_pictureAnew wsL_pictureAnew) := goodIn_app (goodIn_of _ (by decide +kernel)) ggL_law_L_pictureAnew
set_option maxRecDepth 20000 in
theorem ggL_law_X5_pictureAnew : GoodIn wsL_law wsX5_pictureAnew := goodIn_r _ [540, 58, 496, 497, 498, 5, 499, 199, 200, 201, 208, 209, 210, 211, 212, 213, 214, 215, 216, 504, 505, 506, 507, 198, 54, 57, 56, 508, 509, 510, 511, 512, 513, 514, 48, 50, 49, 51, 767, 768, 769, 770, 771, 772, 773, 774, 775, 776, 777, 778, 779, 780, 781, 782, 783, 784, 785, 786] (by decide +kernel) (by decide +kernel)
set_option maxRecDepth 20000 in
theorem gL_law_X5_pictureAnew : GoodIn wsL_law (wsV RL 153 RX5 yX5_pictureAnew wsX5_pictureAnew) := goodIn_app (goodIn_of _ (by decide +kernel)) ggL_law_X5_pictureAnew
set_option maxRecDepth 20000 in
theorem ggL_law_L_tileStamp : GoodIn wsL_law wsL_tileStamp := goodIn_ca (goodIn_r _ [543, 68, 544, 545, 546, 2, 547, 22, 462, 437, 438, 439, 88, 89, 440, 441, 442, 443, 90, 91, 92, 444, 445, 446, 761, 762, 763, 764, 765, 766, 805, 806, 807, 808, 809, 810, 811] (by decide +kernel) (by decide +kernel)) (goodIn_sub (fun _ h => List.mem_append_right _ h) (by decide +kernel))
set_option maxRecDepth 20000 in
theorem gL_law_L_tileStamp : GoodIn wsL_law (va_wsS RL 154 yL_tileStamp wsL_tileStamp) := goodIn_app (goodIn_of _ (by decide +kernel)) ggL_law_L_tileStamp
set_option maxRecDepth 20000 in
theorem ggL_law_X5_tileStamp : GoodIn wsL_law wsX5_tileStamp := goodIn_r _ [551, 58, 496, 497, 498, 5, 499, 199, 200, 201, 208, 209, 210, 211, 212, 767, 768, 769, 770, 771, 772, 773, 774, 775, 776, 777, 778, 779, 780, 781, 782, 783, 784, 785, 786] (by decide +kernel) (by decide +kernel)
set_option maxRecDepth 20000 in
theorem gL_law_X5_tileStamp : GoodIn wsL_law (wsV RL 156 RX5 yX5_tileStamp wsX5_tileStamp) := goodIn_app (goodIn_of _ (by decide +kernel)) ggL_law_X5_tileStamp
set_option maxRecDepth 20000 in
theorem ggL_law_L_isStale : GoodIn wsL_law wsL_isStale := goodIn_ca (goodIn_r _ [554, 68, 555, 556, 557, 2, 558, 22, 437, 438, 439, 88, 89, 440, 441, 442, 443, 90, 91, 92, 444, 445, 446, 559, 560, 561, 562, 16, 239, 99, 100, 101, 15, 102, 103, 240, 241, 242, 243, 244, 245, 246, 247, 248, 249, 250, 251, 252, 253, 254, 255, 28, 563, 564, 565, 81, 566, 141, 472, 567, 473, 474, 475, 476, 477, 137, 478, 139, 479, 138, 480, 140, 481, 482, 483, 484, 436, 485, 486, 487, 453, 761, 762, 763, 764, 765, 766, 787, 788, 789, 790, 791, 792, 793, 794, 795, 796, 797, 801, 802, 803, 804, 805, 806, 807, 808, 809, 810, 811, 798, 799, 800] (by decide +kernel) (by decide +kernel)) (goodIn_sub (fun _ h => List.mem_append_right _ h) (by decide +kernel))
set_option maxRecDepth 20000 in
theorem gL_law_L_isStale : GoodIn wsL_law (va_wsS RL 157 yL_isStale wsL_isStale) := goodIn_app (goodIn_of _ (by decide +kernel)) ggL_law_L_isStale
set_option maxRecDepth 20000 in
theorem ggL_law_X5_isStale : GoodIn wsL_law wsX5_isStale := goodIn_r _ [571, 496, 497, 498, 5, 499, 199, 200, 201, 208, 209, 210, 211, 212, 572, 573, 574, 575, 58, 221, 56, 57, 508, 509, 510, 511, 512, 513, 514, 48, 50, 49, 51, 767, 768, 769, 770, 771, 772, 773, 774, 775, 776, 777, 778, 779, 780, 781, 782, 783, 784, 785, 786] (by decide +kernel) (by decide +kernel)
set_option maxRecDepth 20000 in
theorem gL_law_X5_isStale : GoodIn wsL_law (wsV RL 159 RX5 yX5_isStale wsX5_isStale) := goodIn_app (goodIn_of _ (by decide +kernel)) ggL_law_X5_isStale
set_option maxRecDepth 20000 in
theorem ggL_law_L_staleTiles : GoodIn wsL_law wsL_staleTiles := goodIn_ca (goodIn_r _ [578, 68, 579, 580, 581, 2, 582, 440, 22, 441, 442, 443, 88, 89, 90, 91, 92, 444, 445, 446, 559, 560, 561, 562, 16, 239, 99, 100, 101, 15, 102, 103, 240, 241, 242, 243, 244, 245, 246, 247, 248, 249, 250, 251, 252, 253, 254, 255, 28, 563, 564, 565, 81, 566, 141, 472, 567, 473, 474, 475, 476, 477, 137, 478, 139, 479, 138, 480, 140, 481, 482, 483, 484, 436, 485, 486, 487, 453, 761, 762, 763, 764, 765, 766, 787, 788, 789, 790, 791, 792, 793, 794, 795, 796, 797, 801, 802, 803, 804, 805, 806, 807, 808, 809, 810, 811, 798, 799, 800] (by decide +kernel) (by decide +kernel)) (goodIn_sub (fun _ h => List.mem_append_right _ h) (by decide +kernel))
set_option maxRecDepth 20000 in
theorem gL_law_L_staleTiles : GoodIn wsL_law (va_wsS RL 160 yL_staleTiles wsL_staleTiles) := goodIn_app (goodIn_of _ (by decide +kernel)) ggL_law_L_staleTiles
set_option maxRecDepth 20000 in
theorem ggL_law_X5_staleTiles : GoodIn wsL_law wsX5_staleTiles := goodIn_r _ [586, 199, 200, 5, 201, 208, 209, 210, 211, 212, 587, 588, 589, 590, 572, 573, 574, 575, 58, 221, 56, 57, 508, 509, 510, 511, 512, 513, 514, 48, 50, 49, 51, 500, 501, 502, 503, 59, 504, 505, 506, 507, 198, 54, 767, 768, 769, 770, 771, 772, 773, 774, 775, 776, 777, 778, 779, 780, 781, 782, 783, 784, 785, 786] (by decide +kernel) (by decide +kernel)
set_option maxRecDepth 20000 in
theorem gL_law_X5_staleTiles : GoodIn wsL_law (wsV RL 162 RX5 yX5_staleTiles wsX5_staleTiles) := goodIn_app (goodIn_of _ (by decide +kernel)) ggL_law_X5_staleTiles
set_option maxRecDepth 20000 in
theorem ggL_law_X4_refresh : GoodIn wsL_law wsX4_refresh := goodIn_r _ [594, 22, 559, 560, 561, 2, 562, 16, 239, 99, 100, 101, 15, 102, 103, 240, 241, 242, 243, 244, 245, 246, 247, 248, 249, 250, 251, 252, 253, 254, 255, 28, 563, 564, 565, 81, 566, 141, 472, 567, 473, 474, 475, 476, 477, 137, 478, 139, 479, 138, 480, 140, 481, 482, 483, 484, 436, 485, 486, 487, 453, 458, 459, 460, 461, 23, 462, 463, 464, 465, 466, 467, 322, 323, 468, 469, 470, 471, 263, 761, 762, 763, 764, 765, 766, 787, 788, 789, 790, 791, 792, 793, 794, 795, 796, 797, 801, 802, 803, 804, 805, 806, 807, 808, 809, 810, 811, 798, 799, 800] (by decide +kernel) (by decide +kernel)
set_option maxRecDepth 20000 in
theorem gL_law_X4_refresh : GoodIn wsL_law (wsV RL 163 RX4 yX4_refresh wsX4_refresh) := goodIn_app (goodIn_of _ (by decide +kernel)) ggL_law_X4_refresh
set_option maxRecDepth 20000 in
theorem ggL_law_X5_refresh : GoodIn wsL_law wsX5_refresh := goodIn_r _ [598, 212, 587, 588, 589, 5, 590, 572, 573, 574, 575, 58, 221, 56, 57, 508, 509, 510, 511, 512, 513, 514, 48, 50, 49, 51, 500, 501, 502, 503, 59, 504, 505, 506, 507, 198, 54, 767, 768, 769, 770, 771, 772, 773, 774, 775, 776, 777, 778, 779, 780, 781, 782, 783, 784, 785, 786] (by decide +kernel) (by decide +kernel)
set_option maxRecDepth 20000 in
theorem gL_law_X5_refresh : GoodIn wsL_law (wsV RL 166 RX5 yX5_refresh wsX5_refresh) := goodIn_app (goodIn_of _ (by decide +kernel)) ggL_law_X5_refresh
set_option maxRecDepth 20000 in
theorem ggL_law_L_drive : GoodIn wsL_law wsL_drive := goodIn_ca (goodIn_r _ [601, 68, 602, 603, 604, 2, 605, 19, 20, 606, 607, 608, 88, 89, 90, 91, 92, 93, 94, 95, 609, 610, 611, 612, 613, 163, 614, 761, 762, 763, 764, 765, 766] (by decide +kernel) (by decide +kernel)) (goodIn_sub (fun _ h => List.mem_append_right _ h) (by decide +kernel))
set_option maxRecDepth 20000 in
theorem gL_law_L_drive : GoodIn wsL_law (va_wsS RL 167 yL_drive wsL_drive) := goodIn_app (goodIn_of _ (by decide +kernel)) ggL_law_L_drive
set_option maxRecDepth 20000 in
theorem ggL_law_X5_drive : GoodIn wsL_law wsX5_drive := goodIn_r _ [618, 619, 620, 5, 621, 205, 206, 207, 199, 200, 201, 208, 209, 210, 211, 212, 622, 623, 624, 625, 60, 61, 626, 627, 628, 629, 767, 768, 769, 770, 771, 772, 773, 774, 775, 776, 777, 778, 779, 780, 781, 782, 783, 784, 785, 786] (by decide +kernel) (by decide +kernel)
set_option maxRecDepth 20000 in
theorem gL_law_X5_drive : GoodIn wsL_law (wsV RL 169 RX5 yX5_drive wsX5_drive) := goodIn_app (goodIn_of _ (by decide +kernel)) ggL_law_X5_drive
set_option maxRecDepth 20000 in
theorem ggL_law_L_see : GoodIn wsL_law wsL_see := goodIn_ca (goodIn_ca (goodIn_ca (goodIn_r _ [632, 68, 69, 70, 633, 634, 635, 2, 636, 75, 76, 77, 78, 19, 20, 82, 83, 84, 606, 607, 608, 88, 89, 90, 91, 92, 235, 236, 237, 238, 16, 239, 99, 100, 101, 15, 102, 103, 240, 241, 242, 243, 244, 245, 246, 247, 248, 249, 250, 251, 252, 253, 254, 255, 28, 256, 257, 258, 637, 638, 639, 81, 640, 641, 188, 163, 189, 642, 643, 644, 645, 137, 138, 610, 611, 612, 613, 614, 646, 647, 648, 649, 139, 140, 104, 105, 106, 107, 23, 650, 651, 652, 653, 136, 265, 266, 267, 268, 141, 263, 269, 654, 655, 656, 657, 259, 260, 261, 262, 264, 108, 109, 110, 111, 11, 12, 112, 113, 114, 270, 271, 272, 273, 274, 234, 115, 116, 117, 118, 119, 120, 121, 122, 123, 124, 125, 126, 127, 128, 129, 658, 659, 660, 661, 142, 40, 41, 42, 761, 762, 763, 764, 765, 766, 798, 799, 800, 787, 788, 789, 790, 791, 792, 793, 794, 795, 796, 797, 801, 802, 803, 804] (by decide +kernel) (by decide +kernel)) (goodIn_sub (fun _ h => List.mem_append_left _ (List.mem_append_left _ (List.mem_append_right _ h))) (by decide +kernel))) (goodIn_sub (fun _ h => List.mem_append_left _ (List.mem_append_right _ h)) (by decide +kernel))) (goodIn_sub (fun _ h => List.mem_append_right _ h) (by decide +kernel))
set_option maxRecDepth 20000 in
theorem gL_law_L_see : GoodIn wsL_law (va_wsS RL 170 yL_see wsL_see) := goodIn_app (goodIn_of _ (by decide +kernel)) ggL_law_L_see
set_option maxRecDepth 20000 in
theorem ggL_law_X5_see : GoodIn wsL_law wsX5_see := goodIn_r _ [665, 212, 48, 49, 50, 51, 63, 62, 619, 620, 5, 621, 279, 280, 281, 282, 198, 208, 209, 210, 211, 199, 200, 201, 626, 627, 628, 629, 60, 61, 666, 667, 668, 669, 287, 288, 289, 290, 56, 54, 670, 671, 672, 673, 283, 284, 285, 286, 217, 218, 219, 220, 221, 57, 53, 55, 767, 768, 769, 770, 771, 772, 773, 774, 775, 776, 777, 778, 779, 780, 781, 782, 783, 784, 785, 786] (by decide +kernel) (by decide +kernel)
set_option maxRecDepth 20000 in
theorem gL_law_X5_see : GoodIn wsL_law (wsV RL 172 RX5 yX5_see wsX5_see) := goodIn_app (goodIn_of _ (by decide +kernel)) ggL_law_X5_see
set_option maxRecDepth 20000 in
theorem ggL_law_L_sightings : GoodIn wsL_law wsL_sightings := goodIn_ca (goodIn_r _ [676, 68, 677, 678, 679, 2, 680, 235, 236, 237, 238, 88, 89, 16, 239, 99, 100, 101, 15, 102, 103, 240, 241, 242, 243, 244, 245, 246, 247, 248, 249, 250, 251, 252, 253, 254, 255, 28, 681, 682, 683, 81, 684, 136, 761, 762, 763, 764, 765, 766, 787, 788, 789, 790, 791, 792, 793, 794, 795, 796, 797] (by decide +kernel) (by decide +kernel)) (goodIn_sub (fun _ h => List.mem_append_right _ h) (by decide +kernel))
set_option maxRecDepth 20000 in
theorem gL_law_L_sightings : GoodIn wsL_law (va_wsS RL 173 yL_sightings wsL_sightings) := goodIn_app (goodIn_of _ (by decide +kernel)) ggL_law_L_sightings
set_option maxRecDepth 20000 in
theorem ggL_law_X5_sightings : GoodIn wsL_law wsX5_sightings := goodIn_r _ [688, 62, 279, 280, 281, 5, 282, 198, 208, 209, 210, 211, 212, 767, 768, 769, 770, 771, 772, 773, 774, 775, 776, 777, 778, 779, 780, 781, 782, 783, 784, 785, 786] (by decide +kernel) (by decide +kernel)
set_option maxRecDepth 20000 in
theorem gL_law_X5_sightings : GoodIn wsL_law (wsV RL 175 RX5 yX5_sightings wsX5_sightings) := goodIn_app (goodIn_of _ (by decide +kernel)) ggL_law_X5_sightings
set_option maxRecDepth 20000 in
theorem ggL_law_L_dear : GoodIn wsL_law wsL_dear := goodIn_ca (goodIn_r _ [691, 68, 692, 693, 694, 2, 695, 235, 236, 237, 238, 88, 89, 16, 239, 99, 100, 101, 15, 102, 103, 240, 241, 242, 243, 244, 245, 246, 247, 248, 249, 250, 251, 252, 253, 254, 255, 28, 696, 697, 698, 81, 699, 136, 700, 266, 267, 268, 141, 263, 269, 701, 260, 261, 262, 264, 761, 762, 763, 764, 765, 766, 787, 788, 789, 790, 791, 792, 793, 794, 795, 796, 797, 801, 802, 803, 804, 798, 799, 800] (by decide +kernel) (by decide +kernel)) (goodIn_sub (fun _ h => List.mem_append_right _ h) (by decide +kernel))
set_option maxRecDepth 20000 in
theorem gL_law_L_dear : GoodIn wsL_law (va_wsS RL 176 yL_dear wsL_dear) := goodIn_app (goodIn_of _ (by decide +kernel)) ggL_law_L_dear
set_option maxRecDepth 20000 in
theorem ggL_law_X5_dear : GoodIn wsL_law wsX5_dear := goodIn_r _ [705, 279, 280, 281, 5, 282, 198, 208, 209, 210, 211, 212, 706, 707, 708, 709, 62, 63, 287, 288, 289, 290, 56, 54, 283, 284, 285, 286, 767, 768, 769, 770, 771, 772, 773, 774, 775, 776, 777, 778, 779, 780, 781, 782, 783, 784, 785, 786] (by decide +kernel) (by decide +kernel)
set_option maxRecDepth 20000 in
theorem gL_law_X5_dear : GoodIn wsL_law (wsV RL 178 RX5 yX5_dear wsX5_dear) := goodIn_app (goodIn_of _ (by decide +kernel)) ggL_law_X5_dear
set_option maxRecDepth 20000 in
theorem ggL_law_L_target : GoodIn wsL_law wsL_target := goodIn_ca (goodIn_r _ [712, 68, 713, 714, 715, 2, 716, 19, 20, 606, 607, 608, 88, 89, 90, 91, 92, 717, 718, 719, 720, 16, 239, 99, 100, 101, 15, 102, 103, 240, 241, 242, 243, 244, 245, 246, 247, 248, 249, 250, 251, 252, 253, 254, 255, 28, 696, 697, 698, 81, 699, 136, 700, 266, 267, 268, 141, 263, 269, 701, 260, 261, 262, 264, 637, 638, 639, 640, 641, 188, 163, 189, 642, 643, 644, 645, 137, 138, 610, 611, 612, 613, 614, 646, 647, 648, 649, 139, 140, 761, 762, 763, 764, 765, 766, 787, 788, 789, 790, 791, 792, 793, 794, 795, 796, 797, 801, 802, 803, 804, 798, 799, 800] (by decide +kernel) (by decide +kernel)) (goodIn_sub (fun _ h => List.mem_append_right _ h) (by decide +kernel))
set_option maxRecDepth 20000 in
theorem gL_law_L_target : GoodIn wsL_law (va_wsS RL 179 yL_target wsL_target) := goodIn_app (goodIn_of _ (by decide +kernel)) ggL_law_L_target
set_option maxRecDepth 20000 in
theorem ggL_law_X5_target : GoodIn wsL_law wsX5_target := goodIn_r _ [724, 619, 620, 5, 621, 208, 209, 210, 211, 212, 725, 726, 727, 728, 198, 706, 707, 708, 709, 62, 63, 287, 288, 289, 290, 56, 54, 283, 284, 285, 286, 729, 730, 731, 732, 48, 49, 50, 51, 626, 627, 628, 629, 60, 61, 767, 768, 769, 770, 771, 772, 773, 774, 775, 776, 777, 778, 779, 780, 781, 782, 783, 784, 785, 786] (by decide +kernel) (by decide +kernel)
set_option maxRecDepth 20000 in
theorem gL_law_X5_target : GoodIn wsL_law (wsV RL 181 RX5 yX5_target wsX5_target) := goodIn_app (goodIn_of _ (by decide +kernel)) ggL_law_X5_target
set_option maxRecDepth 20000 in
theorem ggL_law_L_send : GoodIn wsL_law wsL_send := goodIn_ca (goodIn_ca (goodIn_r _ [735, 68, 70, 736, 737, 738, 2, 739, 77, 78, 19, 20, 740, 741, 742, 743, 606, 607, 608, 88, 89, 90, 91, 92, 717, 718, 719, 720, 16, 239, 99, 100, 101, 15, 102, 103, 240, 241, 242, 243, 244, 245, 246, 247, 248, 249, 250, 251, 252, 253, 254, 255, 28, 696, 697, 698, 81, 699, 136, 700, 266, 267, 268, 141, 263, 269, 701, 260, 261, 262, 264, 637, 638, 639, 640, 641, 188, 163, 189, 642, 643, 644, 645, 137, 138, 610, 611, 612, 613, 614, 646, 647, 648, 649, 139, 140, 235, 236, 237, 238, 744, 745, 761, 762, 763, 764, 765, 766, 790, 791, 792, 793, 794, 795, 796, 797, 787, 788, 789, 801, 802, 803, 804, 798, 799, 800] (by decide +kernel) (by decide +kernel)) (goodIn_sub (fun _ h => List.mem_append_left _ (List.mem_append_right _ h)) (by decide +kernel))) (goodIn_sub (fun _ h => List.mem_append_right _ h) (by decide +kernel))
set_option maxRecDepth 20000 in
theorem gL_law_L_send : GoodIn wsL_law (va_wsS RL 182 yL_send wsL_send) := goodIn_app (goodIn_of _ (by decide +kernel)) ggL_law_L_send
set_option maxRecDepth 20000 in
theorem ggL_law_X5_send : GoodIn wsL_law wsX5_send := goodIn_r _ [749, 48, 49, 50, 51, 619, 620, 5, 621, 208, 209, 210, 211, 212, 725, 726, 727, 728, 198, 706, 707, 708, 709, 62, 63, 287, 288, 289, 290, 56, 54, 283, 284, 285, 286, 729, 730, 731, 732, 626, 627, 628, 629, 60, 61, 213, 214, 215, 216, 622, 623, 624, 625, 767, 768, 769, 770, 771, 772, 773, 774, 775, 776, 777, 778, 779, 780, 781, 782, 783, 784, 785, 786] (by decide +kernel) (by decide +kernel)
set_option maxRecDepth 20000 in
theorem gL_law_X5_send : GoodIn wsL_law (wsV RL 184 RX5 yX5_send wsX5_send) := goodIn_app (goodIn_of _ (by decide +kernel)) ggL_law_X5_send
set_option maxRecDepth 20000 in
theorem ggL_law_L_carAt : GoodIn wsL_law wsL_carAt := goodIn_ca (goodIn_r _ [752, 68, 753, 754, 755, 2, 756, 19, 20, 606, 607, 608, 88, 89, 90, 91, 92, 761, 762, 763, 764, 765, 766] (by decide +kernel) (by decide +kernel)) (goodIn_sub (fun _ h => List.mem_append_right _ h) (by decide +kernel))
set_option maxRecDepth 20000 in
theorem gL_law_L_carAt : GoodIn wsL_law (va_wsS RL 185 yL_carAt wsL_carAt) := goodIn_app (goodIn_of _ (by decide +kernel)) ggL_law_L_carAt
set_option maxRecDepth 20000 in
theorem ggL_law_X5_carAt : GoodIn wsL_law wsX5_carAt := goodIn_r _ [760, 60, 61, 619, 620, 5, 621, 208, 209, 210, 211, 212, 767, 768, 769, 770, 771, 772, 773, 774, 775, 776, 777, 778, 779, 780, 781, 782, 783, 784, 785, 786] (by decide +kernel) (by decide +kernel)
set_option maxRecDepth 20000 in
theorem gL_law_X5_carAt : GoodIn wsL_law (wsV RL 187 RX5 yX5_carAt wsX5_carAt) := goodIn_app (goodIn_of _ (by decide +kernel)) ggL_law_X5_carAt
