theorem wi_of {ws : List Cond} {ps : List Nat} (h : ws = ps.filterMap (fun i => lw_tbl[i]?)) : ∀ w ∈ ws, w ∈ lw_tbl := by
  intro w hw
  rw [h] at hw
  obtain ⟨i, -, hi⟩ := List.mem_filterMap.mp hw
  exact List.mem_of_getElem? hi
set_option maxRecDepth 100000 in
theorem wi_r1 : wsL_law0_r1 = [58, 59, 37, 761, 762, 42, 1035, 60, 61, 62, 63, 64, 65, 66, 67, 40, 97, 116, 98, 99, 100, 92, 101, 102].filterMap (fun i => lw_tbl[i]?) := by decide +kernel
set_option maxRecDepth 100000 in
theorem wi_r2 : wsL_law0_r2 = [68, 69, 70, 78, 80, 71, 72, 39, 73, 82, 74, 75, 38, 76, 77, 94, 95, 41, 96, 763, 764, 765, 766, 767].filterMap (fun i => lw_tbl[i]?) := by decide +kernel
set_option maxRecDepth 100000 in
theorem wi_r3 : wsL_law0_r3 = [769, 770, 771, 772, 773, 774, 775, 776, 778, 779, 780, 781, 782, 783, 784, 785, 176, 177, 36, 178, 179, 180, 181, 182].filterMap (fun i => lw_tbl[i]?) := by decide +kernel
set_option maxRecDepth 100000 in
theorem wi_r4 : wsL_law0_r4 = [183, 184, 185, 267, 47, 287, 48, 151, 303, 49, 304, 305, 50, 186, 187, 188, 192, 46, 189, 190, 191, 260, 261, 262].filterMap (fun i => lw_tbl[i]?) := by decide +kernel
set_option maxRecDepth 100000 in
theorem wi_r5 : wsL_law0_r5 = [264, 265, 266, 121, 122, 123, 124, 81, 283, 285, 4, 286, 306, 307, 308, 309, 310, 314, 317, 326, 328, 5, 329, 330].filterMap (fun i => lw_tbl[i]?) := by decide +kernel
set_option maxRecDepth 100000 in
theorem wi_r6 : wsL_law0_r6 = [331, 51, 332, 333, 334, 335, 336, 340, 343, 346, 358, 359, 360, 361, 371, 375, 377, 363, 365, 367, 369, 373, 362, 395].filterMap (fun i => lw_tbl[i]?) := by decide +kernel
set_option maxRecDepth 100000 in
theorem wi_r7 : wsL_law0_r7 = [396, 397, 398, 83, 84, 399, 401, 6, 402, 403, 405, 7, 406, 407, 409, 8, 410, 450, 415, 53, 416, 451, 411, 412].filterMap (fun i => lw_tbl[i]?) := by decide +kernel
set_option maxRecDepth 100000 in
theorem wi_r8 : wsL_law0_r8 = [52, 413, 414, 417, 418, 419, 420, 421, 422, 423, 424, 1050, 425, 437, 438, 439, 440, 441, 443, 444, 445, 446, 447, 449].filterMap (fun i => lw_tbl[i]?) := by decide +kernel
set_option maxRecDepth 100000 in
theorem wi_r9 : wsL_law0_r9 = [448, 54, 832, 833, 834, 835, 768, 836, 837, 838, 839, 840, 841, 842, 843, 844, 845, 847, 15, 848, 786, 849, 851, 16].filterMap (fun i => lw_tbl[i]?) := by decide +kernel
set_option maxRecDepth 100000 in
theorem wi_r10 : wsL_law0_r10 = [852, 853, 855, 17, 856, 777, 828, 829, 830, 831, 452, 453, 454, 455, 456, 457, 458, 372, 376, 459, 461, 9, 462, 151].filterMap (fun i => lw_tbl[i]?) := by decide +kernel
set_option maxRecDepth 100000 in
theorem wi_r11 : wsL_law0_r11 = [137, 138, 139, 140, 141, 142, 55, 143, 144, 145, 56, 146, 147, 148, 149, 150, 464, 465, 466, 468, 469, 470, 471, 337].filterMap (fun i => lw_tbl[i]?) := by decide +kernel
set_option maxRecDepth 100000 in
theorem wi_r12 : wsL_law0_r12 = [311, 472, 473, 474, 475, 315, 477, 479, 10, 480, 374, 857, 858, 859, 860, 861, 863, 18, 864, 865, 867, 19, 868, 869].filterMap (fun i => lw_tbl[i]?) := by decide +kernel
set_option maxRecDepth 100000 in
theorem wi_r13 : wsL_law0_r13 = [871, 20, 872, 481, 482, 483, 484, 485, 486, 487, 318, 489, 491, 11, 492, 493, 494, 873, 874, 875, 876, 877, 879, 21].filterMap (fun i => lw_tbl[i]?) := by decide +kernel
set_option maxRecDepth 100000 in
theorem wi_r14 : wsL_law0_r14 = [880, 495, 496, 497, 498, 499, 500, 501, 347, 339, 313, 316, 881, 882, 883, 884, 504, 505, 506, 507, 508, 509, 510, 885].filterMap (fun i => lw_tbl[i]?) := by decide +kernel
set_option maxRecDepth 100000 in
theorem wi_r15 : wsL_law0_r15 = [886, 887, 888, 512, 513, 514, 515, 516, 517, 518, 889, 890, 891, 892, 117, 118, 119, 120, 893, 894, 895, 896, 519, 520].filterMap (fun i => lw_tbl[i]?) := by decide +kernel
set_option maxRecDepth 100000 in
theorem wi_r16 : wsL_law0_r16 = [521, 522, 523, 524, 525, 526, 527, 528, 529, 344, 897, 898, 899, 900, 530, 531, 532, 533, 534, 535, 536, 537, 538, 539].filterMap (fun i => lw_tbl[i]?) := by decide +kernel
set_option maxRecDepth 100000 in
theorem wi_r17 : wsL_law0_r17 = [345, 541, 542, 543, 544, 901, 902, 903, 904, 905, 907, 22, 908, 545, 546, 547, 548, 549, 550, 551, 342, 909, 910, 911].filterMap (fun i => lw_tbl[i]?) := by decide +kernel
set_option maxRecDepth 100000 in
theorem wi_r18 : wsL_law0_r18 = [912, 552, 553, 554, 555, 556, 557, 558, 913, 914, 915, 916, 125, 126, 127, 128, 917, 918, 919, 920, 559, 560, 561, 562].filterMap (fun i => lw_tbl[i]?) := by decide +kernel
set_option maxRecDepth 100000 in
theorem wi_r19 : wsL_law0_r19 = [563, 564, 565, 579, 57, 566, 567, 568, 577, 569, 570, 571, 573, 574, 575, 580, 581, 582, 583, 593, 596, 584, 585, 587].filterMap (fun i => lw_tbl[i]?) := by decide +kernel
set_option maxRecDepth 100000 in
theorem wi_r20 : wsL_law0_r20 = [589, 591, 164, 166, 1, 167, 595, 597, 168, 170, 2, 171, 172, 173, 174, 175, 341, 348, 156, 157, 158, 159, 588, 586].filterMap (fun i => lw_tbl[i]?) := by decide +kernel
set_option maxRecDepth 100000 in
theorem wi_r21 : wsL_law0_r21 = [592, 590, 160, 161, 162, 163, 338, 312, 613, 615, 12, 616, 921, 922, 923, 924, 925, 927, 23, 928, 929, 931, 24, 932].filterMap (fun i => lw_tbl[i]?) := by decide +kernel
set_option maxRecDepth 100000 in
theorem wi_r22 : wsL_law0_r22 = [933, 935, 25, 936, 937, 938, 939, 940, 942, 26, 943, 617, 618, 619, 620, 621, 622, 623, 624, 626, 13, 627, 944, 945].filterMap (fun i => lw_tbl[i]?) := by decide +kernel
set_option maxRecDepth 100000 in
theorem wi_r23 : wsL_law0_r23 = [946, 947, 629, 630, 631, 632, 633, 634, 635, 948, 949, 950, 951, 636, 637, 638, 639, 640, 641, 642, 952, 953, 954, 955].filterMap (fun i => lw_tbl[i]?) := by decide +kernel
set_option maxRecDepth 100000 in
theorem wi_r24 : wsL_law0_r24 = [643, 644, 645, 646, 647, 648, 649, 133, 135, 0, 136, 152, 153, 154, 155, 594, 956, 957, 958, 959, 960, 962, 27, 963].filterMap (fun i => lw_tbl[i]?) := by decide +kernel
set_option maxRecDepth 100000 in
theorem wi_r25 : wsL_law0_r25 = [650, 651, 652, 653, 654, 655, 656, 964, 965, 966, 967, 968, 970, 28, 971, 129, 130, 131, 132, 972, 973, 974, 975, 657].filterMap (fun i => lw_tbl[i]?) := by decide +kernel
set_option maxRecDepth 100000 in
theorem wi_r26 : wsL_law0_r26 = [658, 659, 660, 661, 662, 663, 664, 665, 666, 668, 669, 670, 671, 672, 673, 976, 977, 978, 979, 980, 981, 982, 983, 985].filterMap (fun i => lw_tbl[i]?) := by decide +kernel
set_option maxRecDepth 100000 in
theorem wi_r27 : wsL_law0_r27 = [29, 986, 987, 989, 30, 990, 674, 675, 676, 677, 678, 679, 680, 682, 683, 684, 685, 695, 686, 687, 688, 689, 691, 692].filterMap (fun i => lw_tbl[i]?) := by decide +kernel
set_option maxRecDepth 100000 in
theorem wi_r28 : wsL_law0_r28 = [693, 694, 697, 698, 699, 700, 701, 702, 703, 704, 705, 706, 707, 708, 991, 992, 993, 994, 995, 997, 31, 998, 999, 1001].filterMap (fun i => lw_tbl[i]?) := by decide +kernel
set_option maxRecDepth 100000 in
theorem wi_r29 : wsL_law0_r29 = [32, 1002, 709, 710, 711, 712, 713, 714, 715, 716, 717, 718, 719, 1003, 1004, 1005, 1006, 720, 721, 722, 723, 724, 725, 726].filterMap (fun i => lw_tbl[i]?) := by decide +kernel
set_option maxRecDepth 100000 in
theorem wi_r30 : wsL_law0_r30 = [727, 728, 729, 730, 731, 732, 1007, 1008, 1009, 1010, 1011, 1013, 33, 1014, 733, 734, 735, 736, 737, 738, 739, 740, 742, 14].filterMap (fun i => lw_tbl[i]?) := by decide +kernel
set_option maxRecDepth 100000 in
theorem wi_r31 : wsL_law0_r31 = [743, 1015, 1016, 1017, 1018, 1019, 1021, 34, 1022, 1023, 1025, 35, 1026, 744, 745, 746, 747, 748, 749, 750, 368, 364, 370, 366].filterMap (fun i => lw_tbl[i]?) := by decide +kernel
set_option maxRecDepth 100000 in
theorem wi_r32 : wsL_law0_r32 = [752, 753, 1027, 1028, 1029, 1030, 754, 755, 756, 757, 758, 759, 760, 1031, 1032, 1033, 1034].filterMap (fun i => lw_tbl[i]?) := by decide +kernel
theorem wi_wsX40 : ∀ w ∈ wsX40, w ∈ lw_tbl := by decide +kernel
theorem wi_wsX50 : ∀ w ∈ wsX50, w ∈ lw_tbl := by decide +kernel
theorem wi_wsJx4a65c0 : ∀ w ∈ wsJx4a65c0, w ∈ lw_tbl := by decide +kernel
theorem wi_wsX30 : ∀ w ∈ wsX30, w ∈ lw_tbl := by decide +kernel
theorem wi_wsX00 : ∀ w ∈ wsX00, w ∈ lw_tbl := by decide +kernel
theorem wi_wsX20 : ∀ w ∈ wsX20, w ∈ lw_tbl := by decide +kernel
theorem wi_wsX10 : ∀ w ∈ wsX10, w ∈ lw_tbl := by decide +kernel
theorem wsL_law_in0 : ∀ w ∈ wsL_law0, w ∈ lw_tbl := by
  unfold wsL_law0
  exact List.forall_mem_append.mpr ⟨List.forall_mem_append.mpr ⟨List.forall_mem_append.mpr ⟨List.forall_mem_append.mpr ⟨List.forall_mem_append.mpr ⟨List.forall_mem_append.mpr ⟨List.forall_mem_append.mpr ⟨List.forall_mem_append.mpr ⟨List.forall_mem_append.mpr ⟨wi_of wi_r1, List.forall_mem_append.mpr ⟨wi_of wi_r2, List.forall_mem_append.mpr ⟨wi_of wi_r3, List.forall_mem_append.mpr ⟨wi_of wi_r4, List.forall_mem_append.mpr ⟨wi_of wi_r5, List.forall_mem_append.mpr ⟨wi_of wi_r6, List.forall_mem_append.mpr ⟨wi_of wi_r7, List.forall_mem_append.mpr ⟨wi_of wi_r8, List.forall_mem_append.mpr ⟨wi_of wi_r9, List.forall_mem_append.mpr ⟨wi_of wi_r10, List.forall_mem_append.mpr ⟨wi_of wi_r11, List.forall_mem_append.mpr ⟨wi_of wi_r12, List.forall_mem_append.mpr ⟨wi_of wi_r13, List.forall_mem_append.mpr ⟨wi_of wi_r14, List.forall_mem_append.mpr ⟨wi_of wi_r15, List.forall_mem_append.mpr ⟨wi_of wi_r16, List.forall_mem_append.mpr ⟨wi_of wi_r17, List.forall_mem_append.mpr ⟨wi_of wi_r18, List.forall_mem_append.mpr ⟨wi_of wi_r19, List.forall_mem_append.mpr ⟨wi_of wi_r20, List.forall_mem_append.mpr ⟨wi_of wi_r21, List.forall_mem_append.mpr ⟨wi_of wi_r22, List.forall_mem_append.mpr ⟨wi_of wi_r23, List.forall_mem_append.mpr ⟨wi_of wi_r24, List.forall_mem_append.mpr ⟨wi_of wi_r25, List.forall_mem_append.mpr ⟨wi_of wi_r26, List.forall_mem_append.mpr ⟨wi_of wi_r27, List.forall_mem_append.mpr ⟨wi_of wi_r28, List.forall_mem_append.mpr ⟨wi_of wi_r29, List.forall_mem_append.mpr ⟨wi_of wi_r30, List.forall_mem_append.mpr ⟨wi_of wi_r31, wi_of wi_r32⟩⟩⟩⟩⟩⟩⟩⟩⟩⟩⟩⟩⟩⟩⟩⟩⟩⟩⟩⟩⟩⟩⟩⟩⟩⟩⟩⟩⟩⟩⟩, wi_wsX40⟩, wi_wsX50⟩, wi_wsJx4a65c0⟩, wi_wsX30⟩, wi_wsX00⟩, wi_wsX20⟩, wi_wsX10⟩, fun _ h => absurd h List.not_mem_nil⟩
theorem wsL_law_x0 : ∀ w ∈ (vx_atS RX4 62 "java/lang/IllegalArgumentException" ["java/lang/RuntimeException", "java/lang/Exception"]).filter goodWord, w ∈ lw_tbl := by decide +kernel
theorem wsL_law_x1 : ∀ w ∈ (vx_atS RX4 77 "java/lang/IllegalStateException" ["java/lang/RuntimeException", "java/lang/Exception"]).filter goodWord, w ∈ lw_tbl := by decide +kernel
theorem wsL_law_x2 : ∀ w ∈ (vx_atS RX4 263 "java/lang/IndexOutOfBoundsException" ["java/lang/RuntimeException", "java/lang/Exception"]).filter goodWord, w ∈ lw_tbl := by decide +kernel
theorem wsL_law_in : ∀ w ∈ wsL_law, w ∈ lw_tbl := fun w h => (List.mem_append.mp h).elim (fun h => (List.mem_append.mp h).elim (fun h => (List.mem_append.mp h).elim (fun h => wsL_law_in0 w h) (fun h => wsL_law_x0 w h)) (fun h => wsL_law_x1 w h)) (fun h => wsL_law_x2 w h)
