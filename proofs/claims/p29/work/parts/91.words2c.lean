set_option maxRecDepth 100000 in
theorem wi_r17 : wsL_law0_r17 = [574, 575, 576, 411, 414, 579, 580, 581, 582, 584, 585, 586, 587, 592, 588, 589, 590, 593, 594, 595, 596, 606, 609, 598].filterMap (fun i => lw_tbl[i]?) := by decide +kernel
set_option maxRecDepth 100000 in
theorem wi_r18 : wsL_law0_r18 = [600, 602, 604, 626, 628, 11, 629, 608, 610, 630, 632, 12, 633, 634, 635, 636, 637, 638, 640, 13, 641, 642, 643, 644].filterMap (fun i => lw_tbl[i]?) := by decide +kernel
set_option maxRecDepth 100000 in
theorem wi_r19 : wsL_law0_r19 = [645, 646, 648, 14, 649, 651, 652, 653, 654, 655, 656, 657, 658, 659, 660, 661, 662, 663, 664, 665, 666, 667, 668, 669].filterMap (fun i => lw_tbl[i]?) := by decide +kernel
set_option maxRecDepth 100000 in
theorem wi_r20 : wsL_law0_r20 = [670, 671, 674, 675, 676, 677, 678, 679, 680, 681, 682, 683, 684, 685, 686, 687, 688, 689, 466, 462, 468, 464, 691, 692].filterMap (fun i => lw_tbl[i]?) := by decide +kernel
set_option maxRecDepth 100000 in
theorem wi_r21 : wsL_law0_r21 = [218, 219, 220, 221, 222, 223, 224, 225, 697, 698, 699, 700, 701, 702, 703, 704, 705, 706, 707, 708, 709, 710, 711, 712].filterMap (fun i => lw_tbl[i]?) := by decide +kernel
set_option maxRecDepth 100000 in
theorem wi_r22 : wsL_law0_r22 = [713, 714, 715, 716, 717, 718, 719, 720, 721, 722, 723, 724, 725, 726, 727, 728, 729, 730, 731].filterMap (fun i => lw_tbl[i]?) := by decide +kernel
