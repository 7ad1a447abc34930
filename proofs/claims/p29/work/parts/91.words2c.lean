set_option maxRecDepth 100000 in
theorem wi_r15 : wsL_law0_r15 = [512, 515, 516, 517, 518, 519, 520, 521, 522, 748, 523, 534, 535, 536, 537, 538, 540, 541, 542, 544, 543, 34, 547, 548].filterMap (fun i => lw_tbl[i]?) := by decide +kernel
set_option maxRecDepth 100000 in
theorem wi_r16 : wsL_law0_r16 = [549, 550, 470, 551, 552, 553, 555, 556, 558, 560, 9, 561, 562, 563, 564, 565, 416, 567, 569, 10, 570, 571, 572, 573].filterMap (fun i => lw_tbl[i]?) := by decide +kernel
set_option maxRecDepth 100000 in
theorem wi_r17 : wsL_law0_r17 = [574, 575, 576, 411, 414, 579, 580, 581, 582, 584, 585, 586, 587, 592, 588, 589, 590, 593, 594, 595, 596, 606, 609, 598].filterMap (fun i => lw_tbl[i]?) := by decide +kernel
set_option maxRecDepth 100000 in
theorem wi_r18 : wsL_law0_r18 = [600, 602, 604, 626, 628, 11, 629, 608, 610, 630, 632, 12, 633, 634, 635, 636, 637, 638, 640, 13, 641, 642, 643, 644].filterMap (fun i => lw_tbl[i]?) := by decide +kernel
set_option maxRecDepth 100000 in
theorem wi_r19 : wsL_law0_r19 = [645, 646, 648, 14, 649, 651, 652, 653, 654, 655, 656, 657, 658, 659, 660, 661, 662, 663, 664, 665, 666, 667, 668, 669].filterMap (fun i => lw_tbl[i]?) := by decide +kernel
set_option maxRecDepth 100000 in
theorem wi_r20 : wsL_law0_r20 = [670, 671, 674, 675, 676, 677, 678, 679, 680, 681, 682, 683, 684, 685, 686, 687, 688, 689, 466, 462, 468, 464, 691, 692].filterMap (fun i => lw_tbl[i]?) := by decide +kernel
theorem wi_21_0 : Cond.methodLink RL 166 yL_cell ∈ lw_tbl := List.mem_of_getElem? (i := 218) (by decide +kernel)
theorem wi_21_1 : Cond.static yL_cell ∈ lw_tbl := List.mem_of_getElem? (i := 219) (by decide +kernel)
set_option maxRecDepth 100000 in
theorem wi_21_2 : Cond.code yL_cell cL_cell 3 (some .int) ∈ lw_tbl := List.mem_append_right _ (List.mem_append_left _ (List.mem_of_getElem? (i := 205) rfl))
theorem wi_21_3 : Cond.constant RL 7 (91003) ∈ lw_tbl := List.mem_of_getElem? (i := 221) (by decide +kernel)
theorem wi_21_4 : Cond.constant RL 8 (1336468125) ∈ lw_tbl := List.mem_of_getElem? (i := 222) (by decide +kernel)
theorem wi_21_5 : Cond.methodLink RL 137 yL_some ∈ lw_tbl := List.mem_of_getElem? (i := 223) (by decide +kernel)
theorem wi_21_6 : Cond.static yL_some ∈ lw_tbl := List.mem_of_getElem? (i := 224) (by decide +kernel)
set_option maxRecDepth 100000 in
theorem wi_21_7 : Cond.code yL_some cL_some 2 (some .int) ∈ lw_tbl := List.mem_append_right _ (List.mem_append_left _ (List.mem_of_getElem? (i := 210) rfl))
theorem wi_21_8 : Cond.methodLink RL 147 yL_both ∈ lw_tbl := List.mem_of_getElem? (i := 697) (by decide +kernel)
theorem wi_21_9 : Cond.static yL_both ∈ lw_tbl := List.mem_of_getElem? (i := 698) (by decide +kernel)
set_option maxRecDepth 100000 in
theorem wi_21_10 : Cond.code yL_both cL_both 7 (some .int) ∈ lw_tbl := List.mem_append_right _ (List.mem_append_right _ (List.mem_append_right _ (List.mem_append_left _ (List.mem_of_getElem? (i := 204) rfl))))
theorem wi_21_11 : Cond.constant RL 136 (-2100000099) ∈ lw_tbl := List.mem_of_getElem? (i := 700) (by decide +kernel)
theorem wi_21_12 : Cond.methodLink RL 140 yL_kind ∈ lw_tbl := List.mem_of_getElem? (i := 701) (by decide +kernel)
theorem wi_21_13 : Cond.static yL_kind ∈ lw_tbl := List.mem_of_getElem? (i := 702) (by decide +kernel)
set_option maxRecDepth 100000 in
theorem wi_21_14 : Cond.code yL_kind cL_kind 2 (some .int) ∈ lw_tbl := List.mem_append_right _ (List.mem_append_right _ (List.mem_append_right _ (List.mem_append_left _ (List.mem_of_getElem? (i := 208) rfl))))
theorem wi_21_15 : Cond.methodLink RL 144 yL_turn ∈ lw_tbl := List.mem_of_getElem? (i := 704) (by decide +kernel)
theorem wi_21_16 : Cond.static yL_turn ∈ lw_tbl := List.mem_of_getElem? (i := 705) (by decide +kernel)
set_option maxRecDepth 100000 in
theorem wi_21_17 : Cond.code yL_turn cL_turn 2 (some .int) ∈ lw_tbl := List.mem_append_right _ (List.mem_append_right _ (List.mem_append_right _ (List.mem_append_left _ (List.mem_of_getElem? (i := 211) rfl))))
theorem wi_21_18 : Cond.methodLink RL 170 yL_edits ∈ lw_tbl := List.mem_of_getElem? (i := 707) (by decide +kernel)
theorem wi_21_19 : Cond.static yL_edits ∈ lw_tbl := List.mem_of_getElem? (i := 708) (by decide +kernel)
set_option maxRecDepth 100000 in
theorem wi_21_20 : Cond.code yL_edits cL_edits 15 (some .boolean) ∈ lw_tbl := List.mem_append_right _ (List.mem_append_right _ (List.mem_append_right _ (List.mem_append_left _ (List.mem_of_getElem? (i := 214) rfl))))
theorem wi_21_21 : Cond.methodLink RL 155 yL_by ∈ lw_tbl := List.mem_of_getElem? (i := 710) (by decide +kernel)
theorem wi_21_22 : Cond.static yL_by ∈ lw_tbl := List.mem_of_getElem? (i := 711) (by decide +kernel)
set_option maxRecDepth 100000 in
theorem wi_21_23 : Cond.code yL_by cL_by 2 (some .int) ∈ lw_tbl := List.mem_append_right _ (List.mem_append_right _ (List.mem_append_right _ (List.mem_append_left _ (List.mem_of_getElem? (i := 217) rfl))))
theorem wi_r21b : ∀ w ∈ wsL_law0_r21, w ∈ lw_tbl := by
  unfold wsL_law0_r21
  exact List.forall_mem_cons.mpr ⟨wi_21_0, List.forall_mem_cons.mpr ⟨wi_21_1, List.forall_mem_cons.mpr ⟨wi_21_2, List.forall_mem_cons.mpr ⟨wi_21_3, List.forall_mem_cons.mpr ⟨wi_21_4, List.forall_mem_cons.mpr ⟨wi_21_5, List.forall_mem_cons.mpr ⟨wi_21_6, List.forall_mem_cons.mpr ⟨wi_21_7, List.forall_mem_cons.mpr ⟨wi_21_8, List.forall_mem_cons.mpr ⟨wi_21_9, List.forall_mem_cons.mpr ⟨wi_21_10, List.forall_mem_cons.mpr ⟨wi_21_11, List.forall_mem_cons.mpr ⟨wi_21_12, List.forall_mem_cons.mpr ⟨wi_21_13, List.forall_mem_cons.mpr ⟨wi_21_14, List.forall_mem_cons.mpr ⟨wi_21_15, List.forall_mem_cons.mpr ⟨wi_21_16, List.forall_mem_cons.mpr ⟨wi_21_17, List.forall_mem_cons.mpr ⟨wi_21_18, List.forall_mem_cons.mpr ⟨wi_21_19, List.forall_mem_cons.mpr ⟨wi_21_20, List.forall_mem_cons.mpr ⟨wi_21_21, List.forall_mem_cons.mpr ⟨wi_21_22, List.forall_mem_cons.mpr ⟨wi_21_23, fun _ h => absurd h List.not_mem_nil⟩⟩⟩⟩⟩⟩⟩⟩⟩⟩⟩⟩⟩⟩⟩⟩⟩⟩⟩⟩⟩⟩⟩⟩
theorem wi_22_0 : Cond.methodLink RL 174 yL_judges ∈ lw_tbl := List.mem_of_getElem? (i := 713) (by decide +kernel)
theorem wi_22_1 : Cond.static yL_judges ∈ lw_tbl := List.mem_of_getElem? (i := 714) (by decide +kernel)
set_option maxRecDepth 100000 in
theorem wi_22_2 : Cond.code yL_judges cL_judges 17 (some .boolean) ∈ lw_tbl := List.mem_append_right _ (List.mem_append_right _ (List.mem_append_right _ (List.mem_append_left _ (List.mem_of_getElem? (i := 220) rfl))))
theorem wi_22_3 : Cond.methodLink RL 177 yL_reverts ∈ lw_tbl := List.mem_of_getElem? (i := 716) (by decide +kernel)
theorem wi_22_4 : Cond.static yL_reverts ∈ lw_tbl := List.mem_of_getElem? (i := 717) (by decide +kernel)
set_option maxRecDepth 100000 in
theorem wi_22_5 : Cond.code yL_reverts cL_reverts 13 (some .boolean) ∈ lw_tbl := List.mem_append_right _ (List.mem_append_right _ (List.mem_append_right _ (List.mem_append_left _ (List.mem_of_getElem? (i := 223) rfl))))
theorem wi_22_6 : Cond.methodLink RL 180 yL_draws ∈ lw_tbl := List.mem_of_getElem? (i := 719) (by decide +kernel)
theorem wi_22_7 : Cond.static yL_draws ∈ lw_tbl := List.mem_of_getElem? (i := 720) (by decide +kernel)
set_option maxRecDepth 100000 in
theorem wi_22_8 : Cond.code yL_draws cL_draws 12 (some .boolean) ∈ lw_tbl := List.mem_append_right _ (List.mem_append_right _ (List.mem_append_right _ (List.mem_append_left _ (List.mem_of_getElem? (i := 226) rfl))))
theorem wi_22_9 : Cond.methodLink RL 183 yL_refreshes ∈ lw_tbl := List.mem_of_getElem? (i := 722) (by decide +kernel)
theorem wi_22_10 : Cond.static yL_refreshes ∈ lw_tbl := List.mem_of_getElem? (i := 723) (by decide +kernel)
set_option maxRecDepth 100000 in
theorem wi_22_11 : Cond.code yL_refreshes cL_refreshes 6 (some .boolean) ∈ lw_tbl := List.mem_append_right _ (List.mem_append_right _ (List.mem_append_right _ (List.mem_append_left _ (List.mem_of_getElem? (i := 229) rfl))))
theorem wi_22_12 : Cond.methodLink RL 158 yX4_refresh ∈ lw_tbl := List.mem_of_getElem? (i := 725) (by decide +kernel)
theorem wi_22_13 : Cond.instanceMethod yX4_refresh ∈ lw_tbl := List.mem_of_getElem? (i := 726) (by decide +kernel)
theorem wi_22_14 : Cond.selects RX4 yX4_refresh yX4_refresh ∈ lw_tbl := List.mem_of_getElem? (i := 727) (by decide +kernel)
set_option maxRecDepth 100000 in
theorem wi_22_15 : Cond.code yX4_refresh cX4_refresh 4 (some .int) ∈ lw_tbl := List.mem_append_right _ (List.mem_append_right _ (List.mem_append_right _ (List.mem_append_left _ (List.mem_of_getElem? (i := 233) rfl))))
theorem wi_22_16 : Cond.methodLink RL 187 yL_sees ∈ lw_tbl := List.mem_of_getElem? (i := 729) (by decide +kernel)
theorem wi_22_17 : Cond.static yL_sees ∈ lw_tbl := List.mem_of_getElem? (i := 730) (by decide +kernel)
set_option maxRecDepth 100000 in
theorem wi_22_18 : Cond.code yL_sees cL_sees 14 (some .boolean) ∈ lw_tbl := List.mem_append_right _ (List.mem_append_right _ (List.mem_append_right _ (List.mem_append_left _ (List.mem_of_getElem? (i := 236) rfl))))
theorem wi_r22b : ∀ w ∈ wsL_law0_r22, w ∈ lw_tbl := by
  unfold wsL_law0_r22
  exact List.forall_mem_cons.mpr ⟨wi_22_0, List.forall_mem_cons.mpr ⟨wi_22_1, List.forall_mem_cons.mpr ⟨wi_22_2, List.forall_mem_cons.mpr ⟨wi_22_3, List.forall_mem_cons.mpr ⟨wi_22_4, List.forall_mem_cons.mpr ⟨wi_22_5, List.forall_mem_cons.mpr ⟨wi_22_6, List.forall_mem_cons.mpr ⟨wi_22_7, List.forall_mem_cons.mpr ⟨wi_22_8, List.forall_mem_cons.mpr ⟨wi_22_9, List.forall_mem_cons.mpr ⟨wi_22_10, List.forall_mem_cons.mpr ⟨wi_22_11, List.forall_mem_cons.mpr ⟨wi_22_12, List.forall_mem_cons.mpr ⟨wi_22_13, List.forall_mem_cons.mpr ⟨wi_22_14, List.forall_mem_cons.mpr ⟨wi_22_15, List.forall_mem_cons.mpr ⟨wi_22_16, List.forall_mem_cons.mpr ⟨wi_22_17, List.forall_mem_cons.mpr ⟨wi_22_18, fun _ h => absurd h List.not_mem_nil⟩⟩⟩⟩⟩⟩⟩⟩⟩⟩⟩⟩⟩⟩⟩⟩⟩⟩⟩
