theorem dX3_countSightings_0 : decode cX3_countSightings 0 = .ok (.iconst 0, 1) := by decide +kernel
theorem dX3_countSightings_1 : decode cX3_countSightings 1 = .ok (.istore_n 1, 1) := by decide +kernel
theorem dX3_countSightings_2 : decode cX3_countSightings 2 = .ok (.iconst 0, 1) := by decide +kernel
theorem dX3_countSightings_3 : decode cX3_countSightings 3 = .ok (.istore_n 2, 1) := by decide +kernel
theorem dX3_countSightings_4 : decode cX3_countSightings 4 = .ok (.iload_n 2, 1) := by decide +kernel
theorem dX3_countSightings_5 : decode cX3_countSightings 5 = .ok (.aload_n 0, 1) := by decide +kernel
theorem dX3_countSightings_6 : decode cX3_countSightings 6 = .ok (.getfield 19, 3) := by decide +kernel
theorem dX3_countSightings_9 : decode cX3_countSightings 9 = .ok (.arraylength, 1) := by decide +kernel
theorem dX3_countSightings_10 : decode cX3_countSightings 10 = .ok (.if_icmp .ge 22, 3) := by decide +kernel
theorem dX3_countSightings_13 : decode cX3_countSightings 13 = .ok (.aload_n 0, 1) := by decide +kernel
theorem dX3_countSightings_14 : decode cX3_countSightings 14 = .ok (.getfield 19, 3) := by decide +kernel
theorem dX3_countSightings_17 : decode cX3_countSightings 17 = .ok (.iload_n 2, 1) := by decide +kernel
theorem dX3_countSightings_18 : decode cX3_countSightings 18 = .ok (.iaload, 1) := by decide +kernel
theorem dX3_countSightings_19 : decode cX3_countSightings 19 = .ok (.iconst (-1), 1) := by decide +kernel
theorem dX3_countSightings_20 : decode cX3_countSightings 20 = .ok (.if_icmp .eq 6, 3) := by decide +kernel
theorem dX3_countSightings_23 : decode cX3_countSightings 23 = .ok (.iinc 1 1, 3) := by decide +kernel
theorem dX3_countSightings_26 : decode cX3_countSightings 26 = .ok (.iinc 2 1, 3) := by decide +kernel
theorem dX3_countSightings_29 : decode cX3_countSightings 29 = .ok (.goto (-25), 3) := by decide +kernel
theorem dX3_countSightings_32 : decode cX3_countSightings 32 = .ok (.iload_n 1, 1) := by decide +kernel
theorem dX3_countSightings_33 : decode cX3_countSightings 33 = .ok (.ireturn, 1) := by decide +kernel
theorem dX3_dearness_0 : decode cX3_dearness 0 = .ok (.iconst (-1), 1) := by decide +kernel
theorem dX3_dearness_1 : decode cX3_dearness 1 = .ok (.istore_n 1, 1) := by decide +kernel
theorem dX3_dearness_2 : decode cX3_dearness 2 = .ok (.iconst 0, 1) := by decide +kernel
theorem dX3_dearness_3 : decode cX3_dearness 3 = .ok (.istore_n 2, 1) := by decide +kernel
theorem dX3_dearness_4 : decode cX3_dearness 4 = .ok (.iload_n 2, 1) := by decide +kernel
theorem dX3_dearness_5 : decode cX3_dearness 5 = .ok (.aload_n 0, 1) := by decide +kernel
theorem dX3_dearness_6 : decode cX3_dearness 6 = .ok (.getfield 19, 3) := by decide +kernel
theorem dX3_dearness_9 : decode cX3_dearness 9 = .ok (.arraylength, 1) := by decide +kernel
theorem dX3_dearness_10 : decode cX3_dearness 10 = .ok (.if_icmp .ge 61, 3) := by decide +kernel
theorem dX3_dearness_13 : decode cX3_dearness 13 = .ok (.iload_n 2, 1) := by decide +kernel
theorem dX3_dearness_14 : decode cX3_dearness 14 = .ok (.iconst 3, 1) := by decide +kernel
theorem dX3_dearness_15 : decode cX3_dearness 15 = .ok (.irem, 1) := by decide +kernel
theorem dX3_dearness_16 : decode cX3_dearness 16 = .ok (.aload_n 0, 1) := by decide +kernel
theorem dX3_dearness_17 : decode cX3_dearness 17 = .ok (.invokevirtual 106, 3) := by decide +kernel
theorem dX3_dearness_20 : decode cX3_dearness 20 = .ok (.if_icmp .eq 7, 3) := by decide +kernel
theorem dX3_dearness_23 : decode cX3_dearness 23 = .ok (.iconst 1, 1) := by decide +kernel
theorem dX3_dearness_24 : decode cX3_dearness 24 = .ok (.goto 4, 3) := by decide +kernel
theorem dX3_dearness_27 : decode cX3_dearness 27 = .ok (.iconst 0, 1) := by decide +kernel
theorem dX3_dearness_28 : decode cX3_dearness 28 = .ok (.istore_n 3, 1) := by decide +kernel
theorem dX3_dearness_29 : decode cX3_dearness 29 = .ok (.iload_n 3, 1) := by decide +kernel
theorem dX3_dearness_30 : decode cX3_dearness 30 = .ok (.ifCond .eq 35, 3) := by decide +kernel
theorem dX3_dearness_33 : decode cX3_dearness 33 = .ok (.aload_n 0, 1) := by decide +kernel
theorem dX3_dearness_34 : decode cX3_dearness 34 = .ok (.getfield 19, 3) := by decide +kernel
theorem dX3_dearness_37 : decode cX3_dearness 37 = .ok (.iload_n 2, 1) := by decide +kernel
theorem dX3_dearness_38 : decode cX3_dearness 38 = .ok (.iaload, 1) := by decide +kernel
theorem dX3_dearness_39 : decode cX3_dearness 39 = .ok (.iconst (-1), 1) := by decide +kernel
theorem dX3_dearness_40 : decode cX3_dearness 40 = .ok (.if_icmp .eq 25, 3) := by decide +kernel
theorem dX3_dearness_43 : decode cX3_dearness 43 = .ok (.iload_n 1, 1) := by decide +kernel
theorem dX3_dearness_44 : decode cX3_dearness 44 = .ok (.iconst (-1), 1) := by decide +kernel
theorem dX3_dearness_45 : decode cX3_dearness 45 = .ok (.if_icmp .eq 13, 3) := by decide +kernel
theorem dX3_dearness_48 : decode cX3_dearness 48 = .ok (.aload_n 0, 1) := by decide +kernel
theorem dX3_dearness_49 : decode cX3_dearness 49 = .ok (.getfield 19, 3) := by decide +kernel
theorem dX3_dearness_52 : decode cX3_dearness 52 = .ok (.iload_n 2, 1) := by decide +kernel
theorem dX3_dearness_53 : decode cX3_dearness 53 = .ok (.iaload, 1) := by decide +kernel
theorem dX3_dearness_54 : decode cX3_dearness 54 = .ok (.iload_n 1, 1) := by decide +kernel
theorem dX3_dearness_55 : decode cX3_dearness 55 = .ok (.if_icmp .ge 10, 3) := by decide +kernel
theorem dX3_dearness_58 : decode cX3_dearness 58 = .ok (.aload_n 0, 1) := by decide +kernel
theorem dX3_dearness_59 : decode cX3_dearness 59 = .ok (.getfield 19, 3) := by decide +kernel
theorem dX3_dearness_62 : decode cX3_dearness 62 = .ok (.iload_n 2, 1) := by decide +kernel
theorem dX3_dearness_63 : decode cX3_dearness 63 = .ok (.iaload, 1) := by decide +kernel
theorem dX3_dearness_64 : decode cX3_dearness 64 = .ok (.istore_n 1, 1) := by decide +kernel
theorem dX3_dearness_65 : decode cX3_dearness 65 = .ok (.iinc 2 1, 3) := by decide +kernel
theorem dX3_dearness_68 : decode cX3_dearness 68 = .ok (.goto (-64), 3) := by decide +kernel
theorem dX3_dearness_71 : decode cX3_dearness 71 = .ok (.iload_n 1, 1) := by decide +kernel
theorem dX3_dearness_72 : decode cX3_dearness 72 = .ok (.iconst (-1), 1) := by decide +kernel
theorem dX3_dearness_73 : decode cX3_dearness 73 = .ok (.if_icmp .ne 7, 3) := by decide +kernel
theorem dX3_dearness_76 : decode cX3_dearness 76 = .ok (.iconst 0, 1) := by decide +kernel
theorem dX3_dearness_77 : decode cX3_dearness 77 = .ok (.goto 14, 3) := by decide +kernel
theorem dX3_dearness_80 : decode cX3_dearness 80 = .ok (.bipush 100, 2) := by decide +kernel
theorem dX3_dearness_82 : decode cX3_dearness 82 = .ok (.iload_n 1, 1) := by decide +kernel
theorem dX3_dearness_83 : decode cX3_dearness 83 = .ok (.isub, 1) := by decide +kernel
theorem dX3_dearness_84 : decode cX3_dearness 84 = .ok (.aload_n 0, 1) := by decide +kernel
theorem dX3_dearness_85 : decode cX3_dearness 85 = .ok (.invokevirtual 109, 3) := by decide +kernel
theorem dX3_dearness_88 : decode cX3_dearness 88 = .ok (.iconst 1, 1) := by decide +kernel
theorem dX3_dearness_89 : decode cX3_dearness 89 = .ok (.iadd, 1) := by decide +kernel
theorem dX3_dearness_90 : decode cX3_dearness 90 = .ok (.imul, 1) := by decide +kernel
theorem dX3_dearness_91 : decode cX3_dearness 91 = .ok (.ireturn, 1) := by decide +kernel
theorem dX3_hasAgreementOn_0 : decode cX3_hasAgreementOn 0 = .ok (.iload_n 1, 1) := by decide +kernel
theorem dX3_hasAgreementOn_1 : decode cX3_hasAgreementOn 1 = .ok (.istore_n 2, 1) := by decide +kernel
theorem dX3_hasAgreementOn_2 : decode cX3_hasAgreementOn 2 = .ok (.iload_n 2, 1) := by decide +kernel
theorem dX3_hasAgreementOn_3 : decode cX3_hasAgreementOn 3 = .ok (.aload_n 0, 1) := by decide +kernel
theorem dX3_hasAgreementOn_4 : decode cX3_hasAgreementOn 4 = .ok (.getfield 19, 3) := by decide +kernel
theorem dX3_hasAgreementOn_7 : decode cX3_hasAgreementOn 7 = .ok (.arraylength, 1) := by decide +kernel
theorem dX3_hasAgreementOn_8 : decode cX3_hasAgreementOn 8 = .ok (.if_icmp .ge 71, 3) := by decide +kernel
theorem dX3_hasAgreementOn_11 : decode cX3_hasAgreementOn 11 = .ok (.iload_n 2, 1) := by decide +kernel
theorem dX3_hasAgreementOn_12 : decode cX3_hasAgreementOn 12 = .ok (.iconst 3, 1) := by decide +kernel
theorem dX3_hasAgreementOn_13 : decode cX3_hasAgreementOn 13 = .ok (.iadd, 1) := by decide +kernel
theorem dX3_hasAgreementOn_14 : decode cX3_hasAgreementOn 14 = .ok (.istore_n 3, 1) := by decide +kernel
theorem dX3_hasAgreementOn_15 : decode cX3_hasAgreementOn 15 = .ok (.iload_n 3, 1) := by decide +kernel
theorem dX3_hasAgreementOn_16 : decode cX3_hasAgreementOn 16 = .ok (.aload_n 0, 1) := by decide +kernel
theorem dX3_hasAgreementOn_17 : decode cX3_hasAgreementOn 17 = .ok (.getfield 19, 3) := by decide +kernel
theorem dX3_hasAgreementOn_20 : decode cX3_hasAgreementOn 20 = .ok (.arraylength, 1) := by decide +kernel
theorem dX3_hasAgreementOn_21 : decode cX3_hasAgreementOn 21 = .ok (.if_icmp .ge 52, 3) := by decide +kernel
theorem dX3_hasAgreementOn_24 : decode cX3_hasAgreementOn 24 = .ok (.aload_n 0, 1) := by decide +kernel
theorem dX3_hasAgreementOn_25 : decode cX3_hasAgreementOn 25 = .ok (.getfield 19, 3) := by decide +kernel
theorem dX3_hasAgreementOn_28 : decode cX3_hasAgreementOn 28 = .ok (.iload_n 2, 1) := by decide +kernel
theorem dX3_hasAgreementOn_29 : decode cX3_hasAgreementOn 29 = .ok (.iaload, 1) := by decide +kernel
theorem dX3_hasAgreementOn_30 : decode cX3_hasAgreementOn 30 = .ok (.iconst (-1), 1) := by decide +kernel
theorem dX3_hasAgreementOn_31 : decode cX3_hasAgreementOn 31 = .ok (.if_icmp .eq 36, 3) := by decide +kernel
theorem dX3_hasAgreementOn_34 : decode cX3_hasAgreementOn 34 = .ok (.aload_n 0, 1) := by decide +kernel
theorem dX3_hasAgreementOn_35 : decode cX3_hasAgreementOn 35 = .ok (.getfield 19, 3) := by decide +kernel
theorem dX3_hasAgreementOn_38 : decode cX3_hasAgreementOn 38 = .ok (.iload_n 3, 1) := by decide +kernel
theorem dX3_hasAgreementOn_39 : decode cX3_hasAgreementOn 39 = .ok (.iaload, 1) := by decide +kernel
theorem dX3_hasAgreementOn_40 : decode cX3_hasAgreementOn 40 = .ok (.iconst (-1), 1) := by decide +kernel
theorem dX3_hasAgreementOn_41 : decode cX3_hasAgreementOn 41 = .ok (.if_icmp .eq 26, 3) := by decide +kernel
theorem dX3_hasAgreementOn_44 : decode cX3_hasAgreementOn 44 = .ok (.aload_n 0, 1) := by decide +kernel
theorem dX3_hasAgreementOn_45 : decode cX3_hasAgreementOn 45 = .ok (.getfield 19, 3) := by decide +kernel
theorem dX3_hasAgreementOn_48 : decode cX3_hasAgreementOn 48 = .ok (.iload_n 2, 1) := by decide +kernel
theorem dX3_hasAgreementOn_49 : decode cX3_hasAgreementOn 49 = .ok (.iaload, 1) := by decide +kernel
theorem dX3_hasAgreementOn_50 : decode cX3_hasAgreementOn 50 = .ok (.aload_n 0, 1) := by decide +kernel
theorem dX3_hasAgreementOn_51 : decode cX3_hasAgreementOn 51 = .ok (.getfield 19, 3) := by decide +kernel
theorem dX3_hasAgreementOn_54 : decode cX3_hasAgreementOn 54 = .ok (.iload_n 3, 1) := by decide +kernel
theorem dX3_hasAgreementOn_55 : decode cX3_hasAgreementOn 55 = .ok (.iaload, 1) := by decide +kernel
theorem dX3_hasAgreementOn_56 : decode cX3_hasAgreementOn 56 = .ok (.imul, 1) := by decide +kernel
theorem dX3_hasAgreementOn_57 : decode cX3_hasAgreementOn 57 = .ok (.bipush 100, 2) := by decide +kernel
theorem dX3_hasAgreementOn_59 : decode cX3_hasAgreementOn 59 = .ok (.idiv, 1) := by decide +kernel
theorem dX3_hasAgreementOn_60 : decode cX3_hasAgreementOn 60 = .ok (.bipush 20, 2) := by decide +kernel
theorem dX3_hasAgreementOn_62 : decode cX3_hasAgreementOn 62 = .ok (.if_icmp .gt 5, 3) := by decide +kernel
theorem dX3_hasAgreementOn_65 : decode cX3_hasAgreementOn 65 = .ok (.iconst 1, 1) := by decide +kernel
theorem dX3_hasAgreementOn_66 : decode cX3_hasAgreementOn 66 = .ok (.ireturn, 1) := by decide +kernel
theorem dX3_hasAgreementOn_67 : decode cX3_hasAgreementOn 67 = .ok (.iinc 3 3, 3) := by decide +kernel
theorem dX3_hasAgreementOn_70 : decode cX3_hasAgreementOn 70 = .ok (.goto (-55), 3) := by decide +kernel
theorem dX3_hasAgreementOn_73 : decode cX3_hasAgreementOn 73 = .ok (.iinc 2 3, 3) := by decide +kernel
theorem dX3_hasAgreementOn_76 : decode cX3_hasAgreementOn 76 = .ok (.goto (-74), 3) := by decide +kernel
theorem dX3_hasAgreementOn_79 : decode cX3_hasAgreementOn 79 = .ok (.iconst 0, 1) := by decide +kernel
theorem dX3_hasAgreementOn_80 : decode cX3_hasAgreementOn 80 = .ok (.ireturn, 1) := by decide +kernel
theorem dX3_outdates_0 : decode cX3_outdates 0 = .ok (.aload_n 0, 1) := by decide +kernel
theorem dX3_outdates_1 : decode cX3_outdates 1 = .ok (.aload_n 1, 1) := by decide +kernel
theorem dX3_outdates_2 : decode cX3_outdates 2 = .ok (.invokevirtual 91, 3) := by decide +kernel
theorem dX3_outdates_5 : decode cX3_outdates 5 = .ok (.ifCond .ne 5, 3) := by decide +kernel
theorem dX3_outdates_8 : decode cX3_outdates 8 = .ok (.iconst 0, 1) := by decide +kernel
theorem dX3_outdates_9 : decode cX3_outdates 9 = .ok (.ireturn, 1) := by decide +kernel
theorem dX3_outdates_10 : decode cX3_outdates 10 = .ok (.aload_n 0, 1) := by decide +kernel
theorem dX3_outdates_11 : decode cX3_outdates 11 = .ok (.getfield 35, 3) := by decide +kernel
theorem dX3_outdates_14 : decode cX3_outdates 14 = .ok (.astore_n 2, 1) := by decide +kernel
theorem dX3_outdates_15 : decode cX3_outdates 15 = .ok (.aload_n 2, 1) := by decide +kernel
theorem dX3_outdates_16 : decode cX3_outdates 16 = .ok (.ifnull 43, 3) := by decide +kernel
theorem dX3_outdates_19 : decode cX3_outdates 19 = .ok (.aload_n 2, 1) := by decide +kernel
theorem dX3_outdates_20 : decode cX3_outdates 20 = .ok (.getfield 95, 3) := by decide +kernel
theorem dX3_outdates_23 : decode cX3_outdates 23 = .ok (.aload_n 1, 1) := by decide +kernel
theorem dX3_outdates_24 : decode cX3_outdates 24 = .ok (.getfield 105, 3) := by decide +kernel
theorem dX3_outdates_27 : decode cX3_outdates 27 = .ok (.if_icmp .le 32, 3) := by decide +kernel
theorem dX3_outdates_30 : decode cX3_outdates 30 = .ok (.aload_n 1, 1) := by decide +kernel
theorem dX3_outdates_31 : decode cX3_outdates 31 = .ok (.aload_n 2, 1) := by decide +kernel
theorem dX3_outdates_32 : decode cX3_outdates 32 = .ok (.invokevirtual 101, 3) := by decide +kernel
theorem dX3_outdates_35 : decode cX3_outdates 35 = .ok (.ifCond .ne 14, 3) := by decide +kernel
theorem dX3_outdates_38 : decode cX3_outdates 38 = .ok (.aload_n 1, 1) := by decide +kernel
theorem dX3_outdates_39 : decode cX3_outdates 39 = .ok (.aload_n 2, 1) := by decide +kernel
theorem dX3_outdates_40 : decode cX3_outdates 40 = .ok (.getfield 98, 3) := by decide +kernel
theorem dX3_outdates_43 : decode cX3_outdates 43 = .ok (.invokevirtual 101, 3) := by decide +kernel
theorem dX3_outdates_46 : decode cX3_outdates 46 = .ok (.ifCond .eq 5, 3) := by decide +kernel
theorem dX3_outdates_49 : decode cX3_outdates 49 = .ok (.iconst 1, 1) := by decide +kernel
theorem dX3_outdates_50 : decode cX3_outdates 50 = .ok (.ireturn, 1) := by decide +kernel
theorem dX3_outdates_51 : decode cX3_outdates 51 = .ok (.aload_n 2, 1) := by decide +kernel
theorem dX3_outdates_52 : decode cX3_outdates 52 = .ok (.getfield 98, 3) := by decide +kernel
theorem dX3_outdates_55 : decode cX3_outdates 55 = .ok (.astore_n 2, 1) := by decide +kernel
theorem dX3_outdates_56 : decode cX3_outdates 56 = .ok (.goto (-41), 3) := by decide +kernel
theorem dX3_outdates_59 : decode cX3_outdates 59 = .ok (.iconst 0, 1) := by decide +kernel
theorem dX3_outdates_60 : decode cX3_outdates 60 = .ok (.ireturn, 1) := by decide +kernel
theorem dX3_shownIn_0 : decode cX3_shownIn 0 = .ok (.aload_n 0, 1) := by decide +kernel
theorem dX3_shownIn_1 : decode cX3_shownIn 1 = .ok (.aload_n 1, 1) := by decide +kernel
theorem dX3_shownIn_2 : decode cX3_shownIn 2 = .ok (.invokevirtual 91, 3) := by decide +kernel
theorem dX3_shownIn_5 : decode cX3_shownIn 5 = .ok (.ifCond .ne 5, 3) := by decide +kernel
theorem dX3_shownIn_8 : decode cX3_shownIn 8 = .ok (.aconst_null, 1) := by decide +kernel
theorem dX3_shownIn_9 : decode cX3_shownIn 9 = .ok (.areturn, 1) := by decide +kernel
theorem dX3_shownIn_10 : decode cX3_shownIn 10 = .ok (.aload_n 0, 1) := by decide +kernel
theorem dX3_shownIn_11 : decode cX3_shownIn 11 = .ok (.getfield 35, 3) := by decide +kernel
theorem dX3_shownIn_14 : decode cX3_shownIn 14 = .ok (.astore_n 3, 1) := by decide +kernel
theorem dX3_shownIn_15 : decode cX3_shownIn 15 = .ok (.aload_n 3, 1) := by decide +kernel
theorem dX3_shownIn_16 : decode cX3_shownIn 16 = .ok (.ifnull 19, 3) := by decide +kernel
theorem dX3_shownIn_19 : decode cX3_shownIn 19 = .ok (.aload_n 3, 1) := by decide +kernel
theorem dX3_shownIn_20 : decode cX3_shownIn 20 = .ok (.getfield 95, 3) := by decide +kernel
theorem dX3_shownIn_23 : decode cX3_shownIn 23 = .ok (.iload_n 2, 1) := by decide +kernel
theorem dX3_shownIn_24 : decode cX3_shownIn 24 = .ok (.if_icmp .le 11, 3) := by decide +kernel
theorem dX3_shownIn_27 : decode cX3_shownIn 27 = .ok (.aload_n 3, 1) := by decide +kernel
theorem dX3_shownIn_28 : decode cX3_shownIn 28 = .ok (.getfield 98, 3) := by decide +kernel
theorem dX3_shownIn_31 : decode cX3_shownIn 31 = .ok (.astore_n 3, 1) := by decide +kernel
theorem dX3_shownIn_32 : decode cX3_shownIn 32 = .ok (.goto (-17), 3) := by decide +kernel
theorem dX3_shownIn_35 : decode cX3_shownIn 35 = .ok (.aload_n 3, 1) := by decide +kernel
theorem dX3_shownIn_36 : decode cX3_shownIn 36 = .ok (.ifnull 18, 3) := by decide +kernel
theorem dX3_shownIn_39 : decode cX3_shownIn 39 = .ok (.aload_n 1, 1) := by decide +kernel
theorem dX3_shownIn_40 : decode cX3_shownIn 40 = .ok (.aload_n 3, 1) := by decide +kernel
theorem dX3_shownIn_41 : decode cX3_shownIn 41 = .ok (.invokevirtual 101, 3) := by decide +kernel
theorem dX3_shownIn_44 : decode cX3_shownIn 44 = .ok (.ifCond .eq 10, 3) := by decide +kernel
theorem dX3_shownIn_47 : decode cX3_shownIn 47 = .ok (.aload_n 3, 1) := by decide +kernel
theorem dX3_shownIn_48 : decode cX3_shownIn 48 = .ok (.getfield 45, 3) := by decide +kernel
theorem dX3_shownIn_51 : decode cX3_shownIn 51 = .ok (.goto 4, 3) := by decide +kernel
theorem dX3_shownIn_54 : decode cX3_shownIn 54 = .ok (.aconst_null, 1) := by decide +kernel
theorem dX3_shownIn_55 : decode cX3_shownIn 55 = .ok (.areturn, 1) := by decide +kernel
set_option maxHeartbeats 4000000 in
set_option maxRecDepth 100000 in
theorem m_X1_shows0 (l : Launch) (G : k_G) (Z : Nat → Prop) (ad : k_Ad) (mm : q_Mem) (t : Nat)  : rc_C l yX1_shows cX1_shows 2 (some .boolean) 0 0 [.ref (ad 6 t), .null] (k_R G Z ad mm) (fun r => r = 0) := by
  refine rc_of (by decide) (Nat.le_of_ble_eq_true rfl) ?_
  intro p e s m args below meth c hx hb hr hF hlk hB ls hl
  obtain ⟨hM, hK, hP, hT⟩ := hB
  have hS : va_S Z s.heap s.heap [] := va_S.rf
  have hl : lv_has ls 2 [(0, .ref (ad 6 t)), (1, .null)] := hl
  have hf : (0 : Nat) ≤ 0 ∧ (0 : Nat) ≤ 0 := ⟨Nat.le_refl 0, Nat.le_refl 0⟩
  refine lv_aload_nN hx hb dX1_shows_0 rfl (lv_at hl 1 rfl) ?_
  refine lv_ifnullN (tgt := 24) hx hb dX1_shows_1 (by decide) ?_
  refine lv_iconst (v := 0) hx hb dX1_shows_24 (by decide) ?_
  exact rc_zret hx hb hr hlk (by first | exact Or.inl rfl | exact Or.inr rfl) (rfl) dX1_shows_25
theorem ke_X3_shownIn : wl_V RX3 yX3_shownIn cX3_shownIn 4 (some (.object "SignTiles$Change")) 2 := ⟨wd_c_X3_shownIn, wd_i_X3_shownIn, wd_s_X3_shownIn, wd_n_X3, by decide, by decide +kernel⟩
set_option maxHeartbeats 4000000 in
set_option maxRecDepth 100000 in
theorem m_X3_shownIn (l : Launch) (G : k_G) (Z : Nat → Prop) (ad : k_Ad) (mm : q_Mem) (w t u : Nat) (hI : Inv mm) (hw : w < sp_W mm) (ht : t < 341) (hs : ¬ mm 13 t = 0) (hu : u < 2 ^ 31) : rq_C l yX3_shownIn cX3_shownIn 4 (some (.object "SignTiles$Change")) 1 21 [.ref (ad 1 w), .ref (ad 6 t), .int (nI u)] (k_R G Z ad mm) (fun r => r = if sp_pin mm (nI (tz_t t)) (nI (tx_t t)) (nI (ty_t t)) u w then some (ad 4 (sp_vis mm w u).toNatClampNeg) else none) := by
  refine rq_of (by decide) (Nat.le_of_ble_eq_true rfl) ?_
  intro p e s m args below meth c hx hb hr hF hlk hB ls hl
  obtain ⟨hM, hK, hP, hT⟩ := hB
  have hS : va_S Z s.heap s.heap [] := va_S.rf
  have hl : lv_has ls 4 [(0, .ref (ad 1 w)), (1, .ref (ad 6 t)), (2, .int (nI u))] := hl
  have hf : (0 : Nat) ≤ 0 ∧ (0 : Nat) ≤ 0 := ⟨Nat.le_refl 0, Nat.le_refl 0⟩
  have hLK := hI.LK hw
  have hW40 := hI.W40
  have hKK := hI.K512
  have hL := hI.L hw
  refine lv_aload_n hx hb dX3_shownIn_0 rfl (lv_at hl 0 rfl) ?_
  refine lv_aload_n hx hb dX3_shownIn_1 rfl (lv_at hl 1 rfl) ?_
  refine kr_V (fr := 0) (lo := 0) (As := [.ref (ad 6 t)]) (rest := []) hF (m_X3_hasPartIn l G Z ad mm w t hI hw ht hs) ke_X3_hasPartIn wd_l_X3_91 (by decide) hM hK hP hT hS (g_recv hK (hM 1 w _ (kc_w (by assumption))) rfl) rfl hl.1 rfl (Nat.le_of_ble_eq_true rfl) dX3_shownIn_2 hf (fun r1 hr1 => ?_)
  refine bo_ne (tgt := 10) hr1 hx hb dX3_shownIn_5 (by decide) (fun c1 => ?_) (fun c1 => ?_)
  · skip
    refine lv_aload_n hx hb dX3_shownIn_10 rfl (lv_at hl 0 rfl) ?_
    refine g_get (C := RX3) (T := TX3) (N := 8) (v := .ref (ad 3 (sp_L mm w))) hF hK (hM 1 w _ (kc_w (by assumption))) rfl inlX3 5 (by decide) rfl wd_f_X3_35 rfl dX3_shownIn_11 ?_
    refine bo_toV (v := k_rf (mm 8 w = -1) (ad 3 (mm 8 w).toNatClampNeg)) (k_rf_L (by rw [hL]; exact nI_nm1 (by omega))) ?_
    refine lv_astore_nV (lv' := [(3, k_rf (mm 8 w = -1) (ad 3 (mm 8 w).toNatClampNeg)), (0, .ref (ad 1 w)), (1, .ref (ad 6 t)), (2, .int (nI u))]) hx hb dX3_shownIn_14 rfl hl (by decide) rfl (fun ls hl => ?_)
    refine bo_loop (σ := Nat × Int32) (μ := fun (qx : Nat × Int32) => match qx with | (n, va) => n) (I := fun (qx : Nat × Int32) (H : Heap) (locs : List Loc) (ls : Array Slot) => match qx with | (n, va) => H = s.heap ∧ locs = [] ∧ lv_has ls 4 [(3, k_rf (va = -1) (ad 3 va.toNatClampNeg)), (0, .ref (ad 1 w)), (1, .ref (ad 6 t)), (2, .int (nI u))] ∧ (sp_seek mm u n va = sp_vis mm w u) ∧ (va = -1 ∨ ∃ j, j < sp_K mm ∧ va = nI j ∧ j < n)) ((600, mm 8 w)) ⟨rfl, rfl, lv_sub hl [0, 1, 2, 3] rfl, rfl, Or.inr ⟨sp_L mm w, hLK, hL, by omega⟩⟩ ?_
    intro x15 H locs ls hI15 ih15
    obtain ⟨n, va⟩ := x15
    obtain ⟨rfl, rfl, hl, hp2, hp3⟩ := hI15
    refine lv_aload_nV hx hb dX3_shownIn_15 rfl (lv_at hl 0 rfl) ?_
    refine k_ifnull (tgt := 35) hx hb dX3_shownIn_16 (by decide) (fun c2 => ?_) (fun c2 => ?_)
    · skip
      have hv : va = sp_vis mm w u := by rw [← hp2]; exact (seek_nil c2).symm
      have e3 : k_rf (va = -1) (ad 3 va.toNatClampNeg) = .null := if_pos c2
      rw [e3] at hl
      refine lv_aload_nN hx hb dX3_shownIn_35 rfl (lv_at hl 0 rfl) ?_
      refine lv_ifnullN (tgt := 54) hx hb dX3_shownIn_36 (by decide) ?_
      refine lv_null hx hb dX3_shownIn_54 ?_
      exact rq_ret (o := none) hx hb hr hlk (shn_0 hv c2) dX3_shownIn_55
    · skip
      obtain ⟨j, hj, rfl, hjn⟩ := hp3.resolve_left c2
      have hj31 : j < 2 ^ 31 := by omega
      have e3 : k_rf (nI j = -1) (ad 3 (nI j).toNatClampNeg) = .ref (ad 3 j) := by rw [k_rf, if_neg c2, nI_clamp hj31]
      rw [e3] at hl
      refine lv_aload_n hx hb dX3_shownIn_19 rfl (lv_at hl 0 rfl) ?_
      refine g_get (C := RX2) (T := TX2) (N := 4) (v := .int (nI (j + 1))) hF hK (hM 3 j _ (kc_v (by assumption))) rfl inlX2 1 (by decide) rfl wd_f_X3_95 rfl dX3_shownIn_20 ?_
      refine lv_iload_n hx hb dX3_shownIn_23 rfl (lv_at hl 3 rfl) ?_
      refine lv_icmp_le (tgt := 35) hx hb dX3_shownIn_24 (by decide) (fun c3 => ?_) (fun c3 => ?_)
      · skip
        have hju2 : j < u := by have := (nI_leI (by omega) (by omega)).mp c3; omega
        have hv : nI j = sp_vis mm w u := by rw [← hp2]; exact (seek_lt hj31 hju2).symm
        refine lv_aload_n hx hb dX3_shownIn_35 rfl (lv_at hl 0 rfl) ?_
        refine lv_ifnull hx hb dX3_shownIn_36 ?_
        refine lv_aload_n hx hb dX3_shownIn_39 rfl (lv_at hl 2 rfl) ?_
        refine lv_aload_n hx hb dX3_shownIn_40 rfl (lv_at hl 0 rfl) ?_
        refine kr_V (fr := 0) (lo := 0) (As := [.ref (ad 3 j)]) (rest := []) hF (m_X1_shows l G Z ad mm t j ht hs hj) ke_X1_shows wd_l_X3_101 (by decide) hM hK hP hT hS (g_recv hK (hM 6 t _ (kc_t ht hs)) rfl) rfl hl.1 rfl (Nat.le_of_ble_eq_true rfl) dX3_shownIn_41 hf (fun r4 hr4 => ?_)
        refine bo_eq (tgt := 54) hr4 hx hb dX3_shownIn_44 (by decide) (fun c5 => ?_) (fun c5 => ?_)
        · skip
          refine lv_null hx hb dX3_shownIn_54 ?_
          exact rq_ret (o := none) hx hb hr hlk (shn_n hj31 hv c5) dX3_shownIn_55
        · skip
          refine lv_aload_n hx hb dX3_shownIn_47 rfl (lv_at hl 0 rfl) ?_
          refine g_get (C := RX2) (T := TX2) (N := 4) (v := .ref (ad 4 j)) hF hK (hM 3 j _ (kc_v (by assumption))) rfl inlX2 0 (by decide) rfl wd_f_X3_45 rfl dX3_shownIn_48 ?_
          refine lv_goto (tgt := 55) hx hb dX3_shownIn_51 (by decide) ?_
          exact rq_ret (o := (some (ad 4 j))) hx hb hr hlk (shn_y hj31 hv c5 c1) dX3_shownIn_55
      · skip
        refine lv_aload_n hx hb dX3_shownIn_27 rfl (lv_at hl 0 rfl) ?_
        refine g_get (C := RX2) (T := TX2) (N := 4) (v := k_rf (mm 12 j = -1) (ad 3 (sp_A mm j))) hF hK (hM 3 j _ (kc_v (by assumption))) rfl inlX2 3 (by decide) rfl wd_f_X3_98 rfl dX3_shownIn_28 ?_
        refine lv_astore_nV (lv' := [(3, k_rf (mm 12 j = -1) (ad 3 (sp_A mm j))), (0, .ref (ad 1 w)), (1, .ref (ad 6 t)), (2, .int (nI u))]) hx hb dX3_shownIn_31 rfl hl (by decide) rfl (fun ls hl => ?_)
        refine lv_goto (tgt := 15) hx hb dX3_shownIn_32 (by decide) ?_
        obtain ⟨n', rfl⟩ : ∃ n', n = n' + 1 := ⟨n - 1, by omega⟩
        have hju : ¬ j < u := fun q => c3 (nI_le (by omega) (by omega))
        exact ih15 (n', mm 12 j) _ _ _ (Nat.lt_succ_self _) ⟨rfl, rfl, lv_sub hl [0, 1, 2, 3] rfl, by rw [← hp2, seek_step hj31 hju], by rcases hI.A hj with ⟨a1, -⟩ | ⟨a1, a2, -⟩; exact Or.inl a1; exact Or.inr ⟨_, by omega, a1, by omega⟩⟩
  · skip
    refine lv_null hx hb dX3_shownIn_8 ?_
    exact rq_ret (o := none) hx hb hr hlk (by rw [if_neg (fun q => c1 q.2.2)]) dX3_shownIn_9
theorem ke_X3_outdates : wl_V RX3 yX3_outdates cX3_outdates 3 (some .boolean) 1 := ⟨wd_c_X3_outdates, wd_i_X3_outdates, wd_s_X3_outdates, wd_n_X3, by decide, by decide +kernel⟩
set_option maxHeartbeats 4000000 in
set_option maxRecDepth 100000 in
theorem m_X3_outdates (l : Launch) (G : k_G) (Z : Nat → Prop) (ad : k_Ad) (mm : q_Mem) (w t : Nat) (hI : Inv mm) (hw : w < sp_W mm) (ht : t < 341) (hs : ¬ mm 13 t = 0) : rc_C l yX3_outdates cX3_outdates 3 (some .boolean) 1 21 [.ref (ad 1 w), .ref (ad 6 t)] (k_R G Z ad mm) (fun r => r = if k_out mm t w = true then 1 else 0) := by
  refine rc_of (by decide) (Nat.le_of_ble_eq_true rfl) ?_
  intro p e s m args below meth c hx hb hr hF hlk hB ls hl
  obtain ⟨hM, hK, hP, hT⟩ := hB
  have hS : va_S Z s.heap s.heap [] := va_S.rf
  have hl : lv_has ls 3 [(0, .ref (ad 1 w)), (1, .ref (ad 6 t))] := hl
  have hf : (0 : Nat) ≤ 0 ∧ (0 : Nat) ≤ 0 := ⟨Nat.le_refl 0, Nat.le_refl 0⟩
  have hLK := hI.LK hw
  have hW40 := hI.W40
  have hKK := hI.K512
  obtain ⟨n, hnK, hn, -⟩ := hI.N hw
  have hn31 : n < 2 ^ 31 := by omega
  obtain ⟨v, hv, hv2⟩ := hI.2.2.2.2.2.2.2.2.2.1 t ht
  have hv0 : 0 < v := by
    rcases Nat.eq_zero_or_pos v with q | q
    · subst q; exact absurd hv2 hs
    · exact q
  have hvc : (mm 13 t).toNatClampNeg = v := by rw [hv2]; exact nI_clamp (by omega)
  refine lv_aload_n hx hb dX3_outdates_0 rfl (lv_at hl 0 rfl) ?_
  refine lv_aload_n hx hb dX3_outdates_1 rfl (lv_at hl 1 rfl) ?_
  refine kr_V (fr := 0) (lo := 0) (As := [.ref (ad 6 t)]) (rest := []) hF (m_X3_hasPartIn l G Z ad mm w t hI hw ht hs) ke_X3_hasPartIn wd_l_X3_91 (by decide) hM hK hP hT hS (g_recv hK (hM 1 w _ (kc_w (by assumption))) rfl) rfl hl.1 rfl (Nat.le_of_ble_eq_true rfl) dX3_outdates_2 hf (fun r1 hr1 => ?_)
  refine bo_ne (tgt := 10) hr1 hx hb dX3_outdates_5 (by decide) (fun c1 => ?_) (fun c1 => ?_)
  · skip
    refine lv_aload_n hx hb dX3_outdates_10 rfl (lv_at hl 0 rfl) ?_
    refine g_get (C := RX3) (T := TX3) (N := 8) (v := .ref (ad 3 (sp_L mm w))) hF hK (hM 1 w _ (kc_w (by assumption))) rfl inlX3 5 (by decide) rfl wd_f_X3_35 rfl dX3_outdates_11 ?_
    refine bo_toV (v := k_rf (n < 0) (ad 3 (sp_back mm 0 (sp_L mm w)))) ((if_neg (Nat.not_lt_zero n)).symm) ?_
    refine lv_astore_nV (lv' := [(2, k_rf (n < 0) (ad 3 (sp_back mm 0 (sp_L mm w)))), (0, .ref (ad 1 w)), (1, .ref (ad 6 t))]) hx hb dX3_outdates_14 rfl hl (by decide) rfl (fun ls hl => ?_)
    refine bo_loop (σ := Nat) (μ := fun (t1 : Nat) => n + 1 - t1) (I := fun (t1 : Nat) (H : Heap) (locs : List Loc) (ls : Array Slot) => H = s.heap ∧ locs = [] ∧ lv_has ls 3 [(2, k_rf (n < t1) (ad 3 (sp_back mm t1 (sp_L mm w)))), (0, .ref (ad 1 w)), (1, .ref (ad 6 t))] ∧ (t1 ≤ n + 1) ∧ (∀ s1, s1 < t1 → ((mm 13 t).toNatClampNeg - 1) ≤ sp_back mm s1 (sp_L mm w) → ¬ k_oj mm (nI (tz_t t)) (sp_back mm s1 (sp_L mm w)))) (0) ⟨rfl, rfl, lv_sub hl [0, 1, 2] rfl, Nat.zero_le _, fun s1 q => absurd q (Nat.not_lt_zero s1)⟩ ?_
    intro x15 H locs ls hI15 ih15
    obtain ⟨t1, ex15⟩ : ∃ z, z = x15 := ⟨_, rfl⟩
    subst ex15
    obtain ⟨rfl, rfl, hl, hp1, hp⟩ := hI15
    refine lv_aload_nV hx hb dX3_outdates_15 rfl (lv_at hl 0 rfl) ?_
    refine k_ifnull (tgt := 59) hx hb dX3_outdates_16 (by decide) (fun c2 => ?_) (fun c2 => ?_)
    · skip
      have e3 : k_rf (n < t1) (ad 3 (sp_back mm t1 (sp_L mm w))) = .null := if_pos c2
      rw [e3] at hl
      refine lv_iconst (v := 0) hx hb dX3_outdates_59 (by decide) ?_
      exact rc_zret hx hb hr hlk (by first | exact Or.inl rfl | exact Or.inr rfl) (by first | rw [if_neg (out_no hI hw hn hn31 hp (Or.inr ⟨ht1, hju⟩))] | rw [if_neg (out_no hI hw hn hn31 hp (Or.inl c2))]) dX3_outdates_60
    · skip
      have ht1 : t1 ≤ n := by omega
      have e3 : k_rf (n < t1) (ad 3 (sp_back mm t1 (sp_L mm w))) = .ref (ad 3 (sp_back mm t1 (sp_L mm w))) := if_neg c2
      rw [e3] at hl
      obtain ⟨hbk, -, hbn⟩ := hI.back (hI.LK hw) hn hn31 t1 ht1
      refine lv_aload_n hx hb dX3_outdates_19 rfl (lv_at hl 0 rfl) ?_
      refine g_get (C := RX2) (T := TX2) (N := 4) (v := .int (nI (sp_back mm t1 (sp_L mm w) + 1))) hF hK (hM 3 (sp_back mm t1 (sp_L mm w)) _ (kc_v (by assumption))) rfl inlX2 1 (by decide) rfl wd_f_X3_95 rfl dX3_outdates_20 ?_
      refine lv_aload_n hx hb dX3_outdates_23 rfl (lv_at hl 2 rfl) ?_
      refine g_get (C := RX1) (T := TX1) (N := 7) (v := .int (mm 13 t - 1)) hF hK (hM 6 t _ (kc_t ht hs)) rfl inlX1 5 (by decide) rfl wd_f_X3_105 rfl dX3_outdates_24 ?_
      refine bo_to (v := (nI (v - 1))) (by rw [hv2]; exact nI_m1 hv0) ?_
      refine lv_icmp_le (tgt := 59) hx hb dX3_outdates_27 (by decide) (fun c3 => ?_) (fun c3 => ?_)
      · skip
        have hju : sp_back mm t1 (sp_L mm w) < ((mm 13 t).toNatClampNeg - 1) := by have := (nI_leI (by omega) (by omega)).mp c3; omega
        refine lv_iconst (v := 0) hx hb dX3_outdates_59 (by decide) ?_
        exact rc_zret hx hb hr hlk (by first | exact Or.inl rfl | exact Or.inr rfl) (by first | rw [if_neg (out_no hI hw hn hn31 hp (Or.inr ⟨ht1, hju⟩))] | rw [if_neg (out_no hI hw hn hn31 hp (Or.inl c2))]) dX3_outdates_60
      · skip
        have hju : ((mm 13 t).toNatClampNeg - 1) ≤ sp_back mm t1 (sp_L mm w) := by rw [hvc]; have : ¬ (sp_back mm t1 (sp_L mm w) + 1 ≤ v - 1) := fun q => c3 (nI_le q (by omega)); omega
        refine lv_aload_n hx hb dX3_outdates_30 rfl (lv_at hl 2 rfl) ?_
        refine lv_aload_n hx hb dX3_outdates_31 rfl (lv_at hl 0 rfl) ?_
        refine kr_V (fr := 0) (lo := 0) (As := [.ref (ad 3 (sp_back mm t1 (sp_L mm w)))]) (rest := []) hF (m_X1_shows l G Z ad mm t (sp_back mm t1 (sp_L mm w)) ht hs hbk) ke_X1_shows wd_l_X3_101 (by decide) hM hK hP hT hS (g_recv hK (hM 6 t _ (kc_t ht hs)) rfl) rfl hl.1 rfl (Nat.le_of_ble_eq_true rfl) dX3_outdates_32 hf (fun r2 hr2 => ?_)
        refine bo_ne (tgt := 49) hr2 hx hb dX3_outdates_35 (by decide) (fun c4 => ?_) (fun c4 => ?_)
        · skip
          refine lv_iconst (v := 1) hx hb dX3_outdates_49 (by decide) ?_
          exact rc_zret hx hb hr hlk (by first | exact Or.inl rfl | exact Or.inr rfl) (by rw [if_pos (out_yes hI hw hn hn31 ht1 c1 hju (by first | exact Or.inl c4 | exact Or.inr ⟨c6, c7⟩))]) dX3_outdates_50
        · skip
          refine lv_aload_n hx hb dX3_outdates_38 rfl (lv_at hl 2 rfl) ?_
          refine lv_aload_n hx hb dX3_outdates_39 rfl (lv_at hl 0 rfl) ?_
          refine g_get (C := RX2) (T := TX2) (N := 4) (v := k_rf (mm 12 (sp_back mm t1 (sp_L mm w)) = -1) (ad 3 (sp_A mm (sp_back mm t1 (sp_L mm w))))) hF hK (hM 3 (sp_back mm t1 (sp_L mm w)) _ (kc_v (by assumption))) rfl inlX2 3 (by decide) rfl wd_f_X3_98 rfl dX3_outdates_40 ?_
          refine k_split (fun c6 => ?_) (fun c6 => ?_)
          · skip
            refine kr_V (fr := 0) (lo := 0) (As := [.null]) (rest := []) hF (m_X1_shows0 l G Z ad mm t) ke_X1_shows wd_l_X3_101 (by decide) hM hK hP hT hS (g_recv hK (hM 6 t _ (kc_t ht hs)) rfl) rfl hl.1 rfl (Nat.le_of_ble_eq_true rfl) dX3_outdates_43 hf (fun r3 hr3 => ?_)
            replace hr3 : r3 = 0 := hr3
            subst hr3
            refine lv_if_eq (tgt := 51) hx hb dX3_outdates_46 (by decide) (fun c7 => ?_) (fun c7 => ?_)
            · skip
              refine lv_aload_n hx hb dX3_outdates_51 rfl (lv_at hl 0 rfl) ?_
              refine g_get (C := RX2) (T := TX2) (N := 4) (v := k_rf (mm 12 (sp_back mm t1 (sp_L mm w)) = -1) (ad 3 (sp_A mm (sp_back mm t1 (sp_L mm w))))) hF hK (hM 3 (sp_back mm t1 (sp_L mm w)) _ (kc_v (by assumption))) rfl inlX2 3 (by decide) rfl wd_f_X3_98 rfl dX3_outdates_52 ?_
              refine bo_toV (v := k_rf (n < t1 + 1) (ad 3 (sp_back mm (t1 + 1) (sp_L mm w)))) (kb_step hI hw hn hn31 ht1) ?_
              refine lv_astore_nV (lv' := [(2, k_rf (n < t1 + 1) (ad 3 (sp_back mm (t1 + 1) (sp_L mm w)))), (0, .ref (ad 1 w)), (1, .ref (ad 6 t))]) hx hb dX3_outdates_55 rfl hl (by decide) rfl (fun ls hl => ?_)
              refine lv_goto (tgt := 15) hx hb dX3_outdates_56 (by decide) ?_
              have hno : ¬ k_oj mm (nI (tz_t t)) (sp_back mm t1 (sp_L mm w)) := fun q => q.elim (fun z => c4 z) (fun z => z.1 c6)
              exact ih15 (t1 + 1) _ _ _ (by show n + 1 - (t1 + 1) < n + 1 - t1; omega) ⟨rfl, rfl, lv_sub hl [0, 1, 2] rfl, by omega, fun s1 hs1 hu1 => by
                rcases Nat.lt_or_ge s1 t1 with q | q
                · exact hp s1 q hu1
                · have e5 : s1 = t1 := by omega
                  subst e5; exact fun ho => hno ho⟩
            · skip
              exact absurd rfl c7
          · skip
            have hAK : sp_A mm (sp_back mm t1 (sp_L mm w)) < sp_K mm := by rcases hI.A hbk with ⟨a, -⟩ | ⟨-, a2, -⟩; exact absurd a c6; omega
            refine kr_V (fr := 0) (lo := 0) (As := [.ref (ad 3 (sp_A mm (sp_back mm t1 (sp_L mm w))))]) (rest := []) hF (m_X1_shows l G Z ad mm t (sp_A mm (sp_back mm t1 (sp_L mm w))) ht hs hAK) ke_X1_shows wd_l_X3_101 (by decide) hM hK hP hT hS (g_recv hK (hM 6 t _ (kc_t ht hs)) rfl) rfl hl.1 rfl (Nat.le_of_ble_eq_true rfl) dX3_outdates_43 hf (fun r4 hr4 => ?_)
            refine bo_eq (tgt := 51) hr4 hx hb dX3_outdates_46 (by decide) (fun c7 => ?_) (fun c7 => ?_)
            · skip
              refine lv_aload_n hx hb dX3_outdates_51 rfl (lv_at hl 0 rfl) ?_
              refine g_get (C := RX2) (T := TX2) (N := 4) (v := k_rf (mm 12 (sp_back mm t1 (sp_L mm w)) = -1) (ad 3 (sp_A mm (sp_back mm t1 (sp_L mm w))))) hF hK (hM 3 (sp_back mm t1 (sp_L mm w)) _ (kc_v (by assumption))) rfl inlX2 3 (by decide) rfl wd_f_X3_98 rfl dX3_outdates_52 ?_
              refine bo_toV (v := k_rf (n < t1 + 1) (ad 3 (sp_back mm (t1 + 1) (sp_L mm w)))) (kb_step hI hw hn hn31 ht1) ?_
              refine lv_astore_nV (lv' := [(2, k_rf (n < t1 + 1) (ad 3 (sp_back mm (t1 + 1) (sp_L mm w)))), (0, .ref (ad 1 w)), (1, .ref (ad 6 t))]) hx hb dX3_outdates_55 rfl hl (by decide) rfl (fun ls hl => ?_)
              refine lv_goto (tgt := 15) hx hb dX3_outdates_56 (by decide) ?_
              have hno : ¬ k_oj mm (nI (tz_t t)) (sp_back mm t1 (sp_L mm w)) := fun q => q.elim (fun z => c4 z) (fun z => c7 z.2)
              exact ih15 (t1 + 1) _ _ _ (by show n + 1 - (t1 + 1) < n + 1 - t1; omega) ⟨rfl, rfl, lv_sub hl [0, 1, 2] rfl, by omega, fun s1 hs1 hu1 => by
                rcases Nat.lt_or_ge s1 t1 with q | q
                · exact hp s1 q hu1
                · have e5 : s1 = t1 := by omega
                  subst e5; exact fun ho => hno ho⟩
            · skip
              refine lv_iconst (v := 1) hx hb dX3_outdates_49 (by decide) ?_
              exact rc_zret hx hb hr hlk (by first | exact Or.inl rfl | exact Or.inr rfl) (by rw [if_pos (out_yes hI hw hn hn31 ht1 c1 hju (by first | exact Or.inl c4 | exact Or.inr ⟨c6, c7⟩))]) dX3_outdates_50
  · skip
    refine lv_iconst (v := 0) hx hb dX3_outdates_8 (by decide) ?_
    exact rc_zret hx hb hr hlk (by first | exact Or.inl rfl | exact Or.inr rfl) (by rw [if_neg (fun q => c1 (k_out_iff.mp q).1)]) dX3_outdates_9
theorem ke_X3_countSightings : wl_V RX3 yX3_countSightings cX3_countSightings 3 (some .int) 0 := ⟨wd_c_X3_countSightings, wd_i_X3_countSightings, wd_s_X3_countSightings, wd_n_X3, by decide, by decide +kernel⟩
set_option maxHeartbeats 4000000 in
set_option maxRecDepth 100000 in
theorem m_X3_countSightings (l : Launch) (G : k_G) (Z : Nat → Prop) (ad : k_Ad) (mm : q_Mem) (w : Nat) (hI : Inv mm) (hw : w < sp_W mm) : rc_C l yX3_countSightings cX3_countSightings 3 (some .int) 0 0 [.ref (ad 1 w)] (k_R G Z ad mm) (fun r => r = sp_dc mm w) := by
  refine rc_of (by decide) (Nat.le_of_ble_eq_true rfl) ?_
  intro p e s m args below meth c hx hb hr hF hlk hB ls hl
  obtain ⟨hM, hK, hP, hT⟩ := hB
  have hS : va_S Z s.heap s.heap [] := va_S.rf
  have hl : lv_has ls 3 [(0, .ref (ad 1 w))] := hl
  have hf : (0 : Nat) ≤ 0 ∧ (0 : Nat) ≤ 0 := ⟨Nat.le_refl 0, Nat.le_refl 0⟩
  refine lv_iconst (v := 0) hx hb dX3_countSightings_0 (by decide) ?_
  refine lv_istore_n (lv' := [(1, .int 0), (0, .ref (ad 1 w))]) hx hb dX3_countSightings_1 rfl hl (by decide) rfl (fun ls hl => ?_)
  refine lv_iconst (v := 0) hx hb dX3_countSightings_2 (by decide) ?_
  refine lv_istore_n (lv' := [(2, .int 0), (1, .int 0), (0, .ref (ad 1 w))]) hx hb dX3_countSightings_3 rfl hl (by decide) rfl (fun ls hl => ?_)
  refine bo_loop (σ := Nat) (μ := fun (i : Nat) => 9 - i) (I := fun (i : Nat) (H : Heap) (locs : List Loc) (ls : Array Slot) => H = s.heap ∧ locs = [] ∧ lv_has ls 3 [(1, .int (it_n (sp_dc1 mm w) i 0)), (2, .int (nI i)), (0, .ref (ad 1 w))] ∧ (i ≤ 9)) (0) ⟨rfl, rfl, lv_sub hl [1, 0, 2] rfl, Nat.zero_le _⟩ ?_
  intro x4 H locs ls hI4 ih4
  obtain ⟨i, ex4⟩ : ∃ z, z = x4 := ⟨_, rfl⟩
  subst ex4
  obtain ⟨rfl, rfl, hl, hi⟩ := hI4
  refine lv_iload_n hx hb dX3_countSightings_4 rfl (lv_at hl 1 rfl) ?_
  refine lv_aload_n hx hb dX3_countSightings_5 rfl (lv_at hl 2 rfl) ?_
  refine g_get (C := RX3) (T := TX3) (N := 8) (v := .ref (ad 2 w)) hF hK (hM 1 w _ (kc_w (by assumption))) rfl inlX3 7 (by decide) rfl wd_f_X3_19 rfl dX3_countSightings_6 ?_
  refine g_alen (t0 := 0) hF hK (hM 2 w _ (kc_d (by assumption))) rfl dX3_countSightings_9 ?_
  refine bo_to (v := (nI 9)) rfl ?_
  refine lv_icmp_ge (tgt := 32) hx hb dX3_countSightings_10 (by decide) (fun c1 => ?_) (fun c1 => ?_)
  · skip
    have hin : i = 9 := by have := (nI_leI (by decide) (by omega)).mp c1; omega
    refine lv_iload_n hx hb dX3_countSightings_32 rfl (lv_at hl 0 rfl) ?_
    exact rc_iret hx hb hr hlk (by rw [hin]; rfl) dX3_countSightings_33
  · skip
    have hi9 : i < 9 := by have : ¬ 9 ≤ i := fun z => c1 (nI_le z (by omega)); omega
    refine lv_aload_n hx hb dX3_countSightings_13 rfl (lv_at hl 2 rfl) ?_
    refine g_get (C := RX3) (T := TX3) (N := 8) (v := .ref (ad 2 w)) hF hK (hM 1 w _ (kc_w (by assumption))) rfl inlX3 7 (by decide) rfl wd_f_X3_19 rfl dX3_countSightings_14 ?_
    refine lv_iload_n hx hb dX3_countSightings_17 rfl (lv_at hl 1 rfl) ?_
    refine g_ald (t0 := 0) (i := i) hF hK (hM 2 w _ (kc_d (by assumption))) rfl rfl (by assumption) (by decide) dX3_countSightings_18 ?_
    refine bo_to (v := (mm 20 (9 * w + i))) (if_pos (by assumption)) ?_
    refine lv_iconst (v := (-1)) hx hb dX3_countSightings_19 (by decide) ?_
    refine lv_icmp_eq (tgt := 26) hx hb dX3_countSightings_20 (by decide) (fun c2 => ?_) (fun c2 => ?_)
    · skip
      rw [dcx_n c2] at hl
      refine lv_iinc (v := (nI (i + 1))) (lv' := [(2, .int (nI (i + 1))), (1, .int (it_n (sp_dc1 mm w) (i + 1) 0)), (0, .ref (ad 1 w))]) hx hb dX3_countSightings_26 hl (k := 1) rfl (nI_1 i) (by decide) rfl (fun ls hl => ?_)
      refine lv_goto (tgt := 4) hx hb dX3_countSightings_29 (by decide) ?_
      exact ih4 (i + 1) _ _ _ (by show 9 - (i + 1) < 9 - i; omega) ⟨rfl, rfl, lv_sub hl [1, 0, 2] rfl, by omega⟩
    · skip
      refine lv_iinc (v := (it_n (sp_dc1 mm w) (i + 1) 0)) (lv' := [(1, .int (it_n (sp_dc1 mm w) (i + 1) 0)), (2, .int (nI i)), (0, .ref (ad 1 w))]) hx hb dX3_countSightings_23 hl (k := 0) rfl (dcx_y c2) (by decide) rfl (fun ls hl => ?_)
      refine lv_iinc (v := (nI (i + 1))) (lv' := [(2, .int (nI (i + 1))), (1, .int (it_n (sp_dc1 mm w) (i + 1) 0)), (0, .ref (ad 1 w))]) hx hb dX3_countSightings_26 hl (k := 1) rfl (nI_1 i) (by decide) rfl (fun ls hl => ?_)
      refine lv_goto (tgt := 4) hx hb dX3_countSightings_29 (by decide) ?_
      exact ih4 (i + 1) _ _ _ (by show 9 - (i + 1) < 9 - i; omega) ⟨rfl, rfl, lv_sub hl [1, 0, 2] rfl, by omega⟩
theorem ke_X3_dearness : wl_V RX3 yX3_dearness cX3_dearness 4 (some .int) 0 := ⟨wd_c_X3_dearness, wd_i_X3_dearness, wd_s_X3_dearness, wd_n_X3, by decide, by decide +kernel⟩
set_option maxHeartbeats 4000000 in
set_option maxRecDepth 100000 in
theorem m_X3_dearness (l : Launch) (G : k_G) (Z : Nat → Prop) (ad : k_Ad) (mm : q_Mem) (w : Nat) (hI : Inv mm) (hw : w < sp_W mm) : rc_C l yX3_dearness cX3_dearness 4 (some .int) 1 20 [.ref (ad 1 w)] (k_R G Z ad mm) (fun r => r = sp_dv mm w) := by
  refine rc_of (by decide) (Nat.le_of_ble_eq_true rfl) ?_
  intro p e s m args below meth c hx hb hr hF hlk hB ls hl
  obtain ⟨hM, hK, hP, hT⟩ := hB
  have hS : va_S Z s.heap s.heap [] := va_S.rf
  have hl : lv_has ls 4 [(0, .ref (ad 1 w))] := hl
  have hf : (0 : Nat) ≤ 0 ∧ (0 : Nat) ≤ 0 := ⟨Nat.le_refl 0, Nat.le_refl 0⟩
  refine lv_iconst (v := (-1)) hx hb dX3_dearness_0 (by decide) ?_
  refine lv_istore_n (lv' := [(1, .int (-1)), (0, .ref (ad 1 w))]) hx hb dX3_dearness_1 rfl hl (by decide) rfl (fun ls hl => ?_)
  refine lv_iconst (v := 0) hx hb dX3_dearness_2 (by decide) ?_
  refine lv_istore_n (lv' := [(2, .int 0), (1, .int (-1)), (0, .ref (ad 1 w))]) hx hb dX3_dearness_3 rfl hl (by decide) rfl (fun ls hl => ?_)
  refine bo_loop (σ := Nat) (μ := fun (i : Nat) => 9 - i) (I := fun (i : Nat) (H : Heap) (locs : List Loc) (ls : Array Slot) => H = s.heap ∧ locs = [] ∧ lv_has ls 4 [(1, .int (it_n (sp_ls1 mm w) i (-1))), (2, .int (nI i)), (0, .ref (ad 1 w))] ∧ (i ≤ 9)) (0) ⟨rfl, rfl, lv_sub hl [1, 0, 2] rfl, Nat.zero_le _⟩ ?_
  intro x4 H locs ls hI4 ih4
  obtain ⟨i, ex4⟩ : ∃ z, z = x4 := ⟨_, rfl⟩
  subst ex4
  obtain ⟨rfl, rfl, hl, hi⟩ := hI4
  refine lv_iload_n hx hb dX3_dearness_4 rfl (lv_at hl 1 rfl) ?_
  refine lv_aload_n hx hb dX3_dearness_5 rfl (lv_at hl 2 rfl) ?_
  refine g_get (C := RX3) (T := TX3) (N := 8) (v := .ref (ad 2 w)) hF hK (hM 1 w _ (kc_w (by assumption))) rfl inlX3 7 (by decide) rfl wd_f_X3_19 rfl dX3_dearness_6 ?_
  refine g_alen (t0 := 0) hF hK (hM 2 w _ (kc_d (by assumption))) rfl dX3_dearness_9 ?_
  refine bo_to (v := (nI 9)) rfl ?_
  refine lv_icmp_ge (tgt := 71) hx hb dX3_dearness_10 (by decide) (fun c1 => ?_) (fun c1 => ?_)
  · skip
    have hin : i = 9 := by have := (nI_leI (by decide) (by omega)).mp c1; omega
    refine lv_iload_n hx hb dX3_dearness_71 rfl (lv_at hl 0 rfl) ?_
    refine lv_iconst (v := (-1)) hx hb dX3_dearness_72 (by decide) ?_
    refine lv_icmp_ne (tgt := 80) hx hb dX3_dearness_73 (by decide) (fun c9 => ?_) (fun c9 => ?_)
    · skip
      refine lv_bipush (v := 100) hx hb dX3_dearness_80 (by decide) ?_
      refine lv_iload_n hx hb dX3_dearness_82 rfl (lv_at hl 0 rfl) ?_
      refine lv_isub hx hb dX3_dearness_83 ?_
      refine lv_aload_n hx hb dX3_dearness_84 rfl (lv_at hl 2 rfl) ?_
      refine kr_V (fr := 0) (lo := 0) (As := []) (rest := [.int (100 - (it_n (sp_ls1 mm w) i (-1)))]) hF (m_X3_kind l G Z ad mm w hI hw) ke_X3_kind wd_l_X3_109 (by decide) hM hK hP hT hS (g_recv hK (hM 1 w _ (kc_w (by assumption))) rfl) rfl hl.1 rfl (Nat.le_of_ble_eq_true rfl) dX3_dearness_85 hf (fun r1 hr1 => ?_)
      replace hr1 : r1 = sp_vk (mm 11 (sp_L mm w)) := hr1
      subst hr1
      refine lv_iconst (v := 1) hx hb dX3_dearness_88 (by decide) ?_
      refine lv_iadd hx hb dX3_dearness_89 ?_
      refine lv_imul hx hb dX3_dearness_90 ?_
      exact rc_iret hx hb hr hlk (by subst hin; first | (rw [sp_dv, sp_ls, if_pos c9]; done) | (rw [sp_dv, sp_ls, if_neg c9]; done)) dX3_dearness_91
    · skip
      refine lv_iconst (v := 0) hx hb dX3_dearness_76 (by decide) ?_
      refine lv_goto (tgt := 91) hx hb dX3_dearness_77 (by decide) ?_
      exact rc_iret hx hb hr hlk (by subst hin; first | (rw [sp_dv, sp_ls, if_pos c9]; done) | (rw [sp_dv, sp_ls, if_neg c9]; done)) dX3_dearness_91
  · skip
    have hi9 : i < 9 := by have : ¬ 9 ≤ i := fun z => c1 (nI_le z (by omega)); omega
    refine bo_cut (ls := ls) (tgt := 28) (E := if ¬ nI (i % 3) = sp_vd (mm 11 (sp_L mm w)) then 1 else 0) (rest := []) (fun vo evo => ?_) (fun J28 => ?_)
    · skip
      refine lv_istore_n (lv' := [(3, .int vo), (1, .int (it_n (sp_ls1 mm w) i (-1))), (2, .int (nI i)), (0, .ref (ad 1 w))]) hx hb dX3_dearness_28 rfl hl (by decide) rfl (fun ls hl => ?_)
      refine lv_iload_n hx hb dX3_dearness_29 rfl (lv_at hl 0 rfl) ?_
      refine bo_eq (tgt := 65) evo hx hb dX3_dearness_30 (by decide) (fun c5 => ?_) (fun c5 => ?_)
      · skip
        rw [lsx_n (fun q => by first | exact c5 q.1 | exact q.2.1 c6 | exact q.2.2.elim c7 c8)] at hl
        refine lv_iinc (v := (nI (i + 1))) (lv' := [(2, .int (nI (i + 1))), (3, .int vo), (1, .int (it_n (sp_ls1 mm w) (i + 1) (-1))), (0, .ref (ad 1 w))]) hx hb dX3_dearness_65 hl (k := 2) rfl (nI_1 i) (by decide) rfl (fun ls hl => ?_)
        refine lv_goto (tgt := 4) hx hb dX3_dearness_68 (by decide) ?_
        exact ih4 (i + 1) _ _ _ (by show 9 - (i + 1) < 9 - i; omega) ⟨rfl, rfl, lv_sub hl [2, 0, 3] rfl, by omega⟩
      · skip
        refine lv_aload_n hx hb dX3_dearness_33 rfl (lv_at hl 3 rfl) ?_
        refine g_get (C := RX3) (T := TX3) (N := 8) (v := .ref (ad 2 w)) hF hK (hM 1 w _ (kc_w (by assumption))) rfl inlX3 7 (by decide) rfl wd_f_X3_19 rfl dX3_dearness_34 ?_
        refine lv_iload_n hx hb dX3_dearness_37 rfl (lv_at hl 2 rfl) ?_
        refine g_ald (t0 := 0) (i := i) hF hK (hM 2 w _ (kc_d (by assumption))) rfl rfl (by assumption) (by decide) dX3_dearness_38 ?_
        refine bo_to (v := (mm 20 (9 * w + i))) (if_pos (by assumption)) ?_
        refine lv_iconst (v := (-1)) hx hb dX3_dearness_39 (by decide) ?_
        refine lv_icmp_eq (tgt := 65) hx hb dX3_dearness_40 (by decide) (fun c6 => ?_) (fun c6 => ?_)
        · skip
          rw [lsx_n (fun q => by first | exact c5 q.1 | exact q.2.1 c6 | exact q.2.2.elim c7 c8)] at hl
          refine lv_iinc (v := (nI (i + 1))) (lv' := [(2, .int (nI (i + 1))), (3, .int vo), (1, .int (it_n (sp_ls1 mm w) (i + 1) (-1))), (0, .ref (ad 1 w))]) hx hb dX3_dearness_65 hl (k := 2) rfl (nI_1 i) (by decide) rfl (fun ls hl => ?_)
          refine lv_goto (tgt := 4) hx hb dX3_dearness_68 (by decide) ?_
          exact ih4 (i + 1) _ _ _ (by show 9 - (i + 1) < 9 - i; omega) ⟨rfl, rfl, lv_sub hl [2, 0, 3] rfl, by omega⟩
        · skip
          refine lv_iload_n hx hb dX3_dearness_43 rfl (lv_at hl 1 rfl) ?_
          refine lv_iconst (v := (-1)) hx hb dX3_dearness_44 (by decide) ?_
          refine lv_icmp_eq (tgt := 58) hx hb dX3_dearness_45 (by decide) (fun c7 => ?_) (fun c7 => ?_)
          · skip
            refine lv_aload_n hx hb dX3_dearness_58 rfl (lv_at hl 3 rfl) ?_
            refine g_get (C := RX3) (T := TX3) (N := 8) (v := .ref (ad 2 w)) hF hK (hM 1 w _ (kc_w (by assumption))) rfl inlX3 7 (by decide) rfl wd_f_X3_19 rfl dX3_dearness_59 ?_
            refine lv_iload_n hx hb dX3_dearness_62 rfl (lv_at hl 2 rfl) ?_
            refine g_ald (t0 := 0) (i := i) hF hK (hM 2 w _ (kc_d (by assumption))) rfl rfl (by assumption) (by decide) dX3_dearness_63 ?_
            refine bo_to (v := (mm 20 (9 * w + i))) (if_pos (by assumption)) ?_
            refine bo_to (v := (it_n (sp_ls1 mm w) (i + 1) (-1))) (lsx_y ⟨c5, c6, by first | exact Or.inl c7 | exact Or.inr c8⟩) ?_
            refine lv_istore_n (lv' := [(1, .int (it_n (sp_ls1 mm w) (i + 1) (-1))), (3, .int vo), (2, .int (nI i)), (0, .ref (ad 1 w))]) hx hb dX3_dearness_64 rfl hl (by decide) rfl (fun ls hl => ?_)
            refine lv_iinc (v := (nI (i + 1))) (lv' := [(2, .int (nI (i + 1))), (1, .int (it_n (sp_ls1 mm w) (i + 1) (-1))), (3, .int vo), (0, .ref (ad 1 w))]) hx hb dX3_dearness_65 hl (k := 2) rfl (nI_1 i) (by decide) rfl (fun ls hl => ?_)
            refine lv_goto (tgt := 4) hx hb dX3_dearness_68 (by decide) ?_
            exact ih4 (i + 1) _ _ _ (by show 9 - (i + 1) < 9 - i; omega) ⟨rfl, rfl, lv_sub hl [1, 0, 3] rfl, by omega⟩
          · skip
            refine lv_aload_n hx hb dX3_dearness_48 rfl (lv_at hl 3 rfl) ?_
            refine g_get (C := RX3) (T := TX3) (N := 8) (v := .ref (ad 2 w)) hF hK (hM 1 w _ (kc_w (by assumption))) rfl inlX3 7 (by decide) rfl wd_f_X3_19 rfl dX3_dearness_49 ?_
            refine lv_iload_n hx hb dX3_dearness_52 rfl (lv_at hl 2 rfl) ?_
            refine g_ald (t0 := 0) (i := i) hF hK (hM 2 w _ (kc_d (by assumption))) rfl rfl (by assumption) (by decide) dX3_dearness_53 ?_
            refine bo_to (v := (mm 20 (9 * w + i))) (if_pos (by assumption)) ?_
            refine lv_iload_n hx hb dX3_dearness_54 rfl (lv_at hl 1 rfl) ?_
            refine lv_icmp_ge (tgt := 65) hx hb dX3_dearness_55 (by decide) (fun c8 => ?_) (fun c8 => ?_)
            · skip
              replace c8 := bo_nlt c8
              rw [lsx_n (fun q => by first | exact c5 q.1 | exact q.2.1 c6 | exact q.2.2.elim c7 c8)] at hl
              refine lv_iinc (v := (nI (i + 1))) (lv' := [(2, .int (nI (i + 1))), (3, .int vo), (1, .int (it_n (sp_ls1 mm w) (i + 1) (-1))), (0, .ref (ad 1 w))]) hx hb dX3_dearness_65 hl (k := 2) rfl (nI_1 i) (by decide) rfl (fun ls hl => ?_)
              refine lv_goto (tgt := 4) hx hb dX3_dearness_68 (by decide) ?_
              exact ih4 (i + 1) _ _ _ (by show 9 - (i + 1) < 9 - i; omega) ⟨rfl, rfl, lv_sub hl [2, 0, 3] rfl, by omega⟩
            · skip
              replace c8 := bo_le c8
              refine lv_aload_n hx hb dX3_dearness_58 rfl (lv_at hl 3 rfl) ?_
              refine g_get (C := RX3) (T := TX3) (N := 8) (v := .ref (ad 2 w)) hF hK (hM 1 w _ (kc_w (by assumption))) rfl inlX3 7 (by decide) rfl wd_f_X3_19 rfl dX3_dearness_59 ?_
              refine lv_iload_n hx hb dX3_dearness_62 rfl (lv_at hl 2 rfl) ?_
              refine g_ald (t0 := 0) (i := i) hF hK (hM 2 w _ (kc_d (by assumption))) rfl rfl (by assumption) (by decide) dX3_dearness_63 ?_
              refine bo_to (v := (mm 20 (9 * w + i))) (if_pos (by assumption)) ?_
              refine bo_to (v := (it_n (sp_ls1 mm w) (i + 1) (-1))) (lsx_y ⟨c5, c6, by first | exact Or.inl c7 | exact Or.inr c8⟩) ?_
              refine lv_istore_n (lv' := [(1, .int (it_n (sp_ls1 mm w) (i + 1) (-1))), (3, .int vo), (2, .int (nI i)), (0, .ref (ad 1 w))]) hx hb dX3_dearness_64 rfl hl (by decide) rfl (fun ls hl => ?_)
              refine lv_iinc (v := (nI (i + 1))) (lv' := [(2, .int (nI (i + 1))), (1, .int (it_n (sp_ls1 mm w) (i + 1) (-1))), (3, .int vo), (0, .ref (ad 1 w))]) hx hb dX3_dearness_65 hl (k := 2) rfl (nI_1 i) (by decide) rfl (fun ls hl => ?_)
              refine lv_goto (tgt := 4) hx hb dX3_dearness_68 (by decide) ?_
              exact ih4 (i + 1) _ _ _ (by show 9 - (i + 1) < 9 - i; omega) ⟨rfl, rfl, lv_sub hl [1, 0, 3] rfl, by omega⟩
    · skip
      refine lv_iload_n hx hb dX3_dearness_13 rfl (lv_at hl 1 rfl) ?_
      refine lv_iconst (v := 3) hx hb dX3_dearness_14 (by decide) ?_
      refine lv_irem hx hb dX3_dearness_15 (by decide) ?_
      refine bo_to (v := (nI (i % 3))) (pk_rem (by omega) (by decide) (by decide)) ?_
      refine lv_aload_n hx hb dX3_dearness_16 rfl (lv_at hl 2 rfl) ?_
      refine kr_V (fr := 0) (lo := 0) (As := []) (rest := [.int (nI (i % 3))]) hF (m_X3_direction l G Z ad mm w hI hw) ke_X3_direction wd_l_X3_106 (by decide) hM hK hP hT hS (g_recv hK (hM 1 w _ (kc_w (by assumption))) rfl) rfl hl.1 rfl (Nat.le_of_ble_eq_true rfl) dX3_dearness_17 hf (fun r3 hr3 => ?_)
      replace hr3 : r3 = sp_vd (mm 11 (sp_L mm w)) := hr3
      subst hr3
      refine lv_icmp_eq (tgt := 27) hx hb dX3_dearness_20 (by decide) (fun c4 => ?_) (fun c4 => ?_)
      · skip
        refine lv_iconst (v := 0) hx hb dX3_dearness_27 (by decide) ?_
        exact J28 _ (by first | exact bo_p c4 | exact bo_n (fun q => q c4))
      · skip
        refine lv_iconst (v := 1) hx hb dX3_dearness_23 (by decide) ?_
        refine lv_goto (tgt := 28) hx hb dX3_dearness_24 (by decide) ?_
        exact J28 _ (by first | exact bo_p c4 | exact bo_n (fun q => q c4))
theorem ke_X3_hasAgreementOn : wl_V RX3 yX3_hasAgreementOn cX3_hasAgreementOn 4 (some .boolean) 1 := ⟨wd_c_X3_hasAgreementOn, wd_i_X3_hasAgreementOn, wd_s_X3_hasAgreementOn, wd_n_X3, by decide, by decide +kernel⟩
set_option maxHeartbeats 4000000 in
set_option maxRecDepth 100000 in
theorem m_X3_hasAgreementOn (l : Launch) (G : k_G) (Z : Nat → Prop) (ad : k_Ad) (mm : q_Mem) (w d : Nat) (hI : Inv mm) (hw : w < sp_W mm) (hd : d < 3) : rc_C l yX3_hasAgreementOn cX3_hasAgreementOn 4 (some .boolean) 0 0 [.ref (ad 1 w), .int (nI d)] (k_R G Z ad mm) (fun r => r = if sp_agr mm w d then 1 else 0) := by
  refine rc_of (by decide) (Nat.le_of_ble_eq_true rfl) ?_
  intro p e s m args below meth c hx hb hr hF hlk hB ls hl
  obtain ⟨hM, hK, hP, hT⟩ := hB
  have hS : va_S Z s.heap s.heap [] := va_S.rf
  have hl : lv_has ls 4 [(0, .ref (ad 1 w)), (1, .int (nI d))] := hl
  have hf : (0 : Nat) ≤ 0 ∧ (0 : Nat) ≤ 0 := ⟨Nat.le_refl 0, Nat.le_refl 0⟩
  refine lv_iload_n hx hb dX3_hasAgreementOn_0 rfl (lv_at hl 1 rfl) ?_
  refine bo_to (v := (nI (3 * 0 + d))) (by rw [Nat.mul_zero, Nat.zero_add]) ?_
  refine lv_istore_n (lv' := [(2, .int (nI (3 * 0 + d))), (0, .ref (ad 1 w)), (1, .int (nI d))]) hx hb dX3_hasAgreementOn_1 rfl hl (by decide) rfl (fun ls hl => ?_)
  refine bo_loop (σ := Nat) (μ := fun (a : Nat) => 3 - a) (I := fun (a : Nat) (H : Heap) (locs : List Loc) (ls : Array Slot) => H = s.heap ∧ locs = [] ∧ lv_has ls 4 [(2, .int (nI (3 * a + d))), (0, .ref (ad 1 w)), (1, .int (nI d))] ∧ (a ≤ 3) ∧ (∀ a1 b1, a1 < a → a1 < b1 → b1 < 3 → ¬ sp_ag2 mm w d a1 b1)) (0) ⟨rfl, rfl, lv_sub hl [0, 1, 2] rfl, Nat.zero_le _, fun a1 b1 q => absurd q (Nat.not_lt_zero a1)⟩ ?_
  intro x2 H locs ls hI2 ih2
  obtain ⟨a, ex2⟩ : ∃ z, z = x2 := ⟨_, rfl⟩
  subst ex2
  obtain ⟨rfl, rfl, hl, ha, hp⟩ := hI2
  refine lv_iload_n hx hb dX3_hasAgreementOn_2 rfl (lv_at hl 0 rfl) ?_
  refine lv_aload_n hx hb dX3_hasAgreementOn_3 rfl (lv_at hl 1 rfl) ?_
  refine g_get (C := RX3) (T := TX3) (N := 8) (v := .ref (ad 2 w)) hF hK (hM 1 w _ (kc_w (by assumption))) rfl inlX3 7 (by decide) rfl wd_f_X3_19 rfl dX3_hasAgreementOn_4 ?_
  refine g_alen (t0 := 0) hF hK (hM 2 w _ (kc_d (by assumption))) rfl dX3_hasAgreementOn_7 ?_
  refine bo_to (v := (nI 9)) rfl ?_
  refine lv_icmp_ge (tgt := 79) hx hb dX3_hasAgreementOn_8 (by decide) (fun c1 => ?_) (fun c1 => ?_)
  · skip
    have hae : a = 3 := by have := (nI_leI (by decide) (by omega)).mp c1; omega
    refine lv_iconst (v := 0) hx hb dX3_hasAgreementOn_79 (by decide) ?_
    exact rc_zret hx hb hr hlk (by first | exact Or.inl rfl | exact Or.inr rfl) (by rw [if_neg (agr_no (fun a1 b1 h1 h2 h3 => hp a1 b1 (by omega) h2 h3))]) dX3_hasAgreementOn_80
  · skip
    have ha3 : a < 3 := by have : ¬ 9 ≤ 3 * a + d := fun z => c1 (nI_le z (by omega)); omega
    refine lv_iload_n hx hb dX3_hasAgreementOn_11 rfl (lv_at hl 0 rfl) ?_
    refine lv_iconst (v := 3) hx hb dX3_hasAgreementOn_12 (by decide) ?_
    refine lv_iadd hx hb dX3_hasAgreementOn_13 ?_
    refine bo_to (v := (nI (3 * (a + 1) + d))) (by show nI (3 * a + d) + nI 3 = _; rw [nI_add]; congr 1; omega) ?_
    refine lv_istore_n (lv' := [(3, .int (nI (3 * (a + 1) + d))), (2, .int (nI (3 * a + d))), (0, .ref (ad 1 w)), (1, .int (nI d))]) hx hb dX3_hasAgreementOn_14 rfl hl (by decide) rfl (fun ls hl => ?_)
    refine bo_loop (σ := Nat) (μ := fun (b : Nat) => 3 - b) (I := fun (b : Nat) (H : Heap) (locs : List Loc) (ls : Array Slot) => H = s.heap ∧ locs = [] ∧ lv_has ls 4 [(3, .int (nI (3 * b + d))), (0, .ref (ad 1 w)), (1, .int (nI d)), (2, .int (nI (3 * a + d)))] ∧ (b ≤ 3) ∧ (a < b) ∧ (∀ b1, a < b1 → b1 < b → ¬ sp_ag2 mm w d a b1)) (a + 1) ⟨rfl, rfl, lv_sub hl [0, 2, 3, 1] rfl, by omega, Nat.lt_succ_self a, fun b1 q q2 => by omega⟩ ?_
    intro x15 H locs ls hI15 ih15
    obtain ⟨b, ex15⟩ : ∃ z, z = x15 := ⟨_, rfl⟩
    subst ex15
    obtain ⟨rfl, rfl, hl, hb3, hab, hp5⟩ := hI15
    refine lv_iload_n hx hb dX3_hasAgreementOn_15 rfl (lv_at hl 0 rfl) ?_
    refine lv_aload_n hx hb dX3_hasAgreementOn_16 rfl (lv_at hl 1 rfl) ?_
    refine g_get (C := RX3) (T := TX3) (N := 8) (v := .ref (ad 2 w)) hF hK (hM 1 w _ (kc_w (by assumption))) rfl inlX3 7 (by decide) rfl wd_f_X3_19 rfl dX3_hasAgreementOn_17 ?_
    refine g_alen (t0 := 0) hF hK (hM 2 w _ (kc_d (by assumption))) rfl dX3_hasAgreementOn_20 ?_
    refine bo_to (v := (nI 9)) rfl ?_
    refine lv_icmp_ge (tgt := 73) hx hb dX3_hasAgreementOn_21 (by decide) (fun c2 => ?_) (fun c2 => ?_)
    · skip
      have hbe : b = 3 := by have := (nI_leI (by decide) (by omega)).mp c2; omega
      refine lv_iinc (v := (nI (3 * (a + 1) + d))) (lv' := [(2, .int (nI (3 * (a + 1) + d))), (3, .int (nI (3 * b + d))), (0, .ref (ad 1 w)), (1, .int (nI d))]) hx hb dX3_hasAgreementOn_73 hl (k := 3) rfl (by show nI (3 * a + d) + nI 3 = _; rw [nI_add]; congr 1; omega) (by decide) rfl (fun ls hl => ?_)
      refine lv_goto (tgt := 2) hx hb dX3_hasAgreementOn_76 (by decide) ?_
      exact ih2 (a + 1) _ _ _ (by show 3 - (a + 1) < 3 - a; omega) ⟨rfl, rfl, lv_sub hl [0, 2, 3] rfl, by omega, fun a1 b1 h1 h2 h3 => by
        rcases Nat.lt_or_ge a1 a with q | q
        · exact hp a1 b1 q h2 h3
        · have e5 : a1 = a := by omega
          subst e5; exact hp5 b1 h2 (by omega)⟩
    · skip
      have hb4 : b < 3 := by have : ¬ 9 ≤ 3 * b + d := fun z => c2 (nI_le z (by omega)); omega
      refine lv_aload_n hx hb dX3_hasAgreementOn_24 rfl (lv_at hl 1 rfl) ?_
      refine g_get (C := RX3) (T := TX3) (N := 8) (v := .ref (ad 2 w)) hF hK (hM 1 w _ (kc_w (by assumption))) rfl inlX3 7 (by decide) rfl wd_f_X3_19 rfl dX3_hasAgreementOn_25 ?_
      refine lv_iload_n hx hb dX3_hasAgreementOn_28 rfl (lv_at hl 3 rfl) ?_
      refine g_ald (t0 := 0) (i := 3 * a + d) hF hK (hM 2 w _ (kc_d (by assumption))) rfl rfl (by omega) (by decide) dX3_hasAgreementOn_29 ?_
      refine bo_to (v := (mm 20 (9 * w + (3 * a + d)))) (if_pos (by omega)) ?_
      refine lv_iconst (v := (-1)) hx hb dX3_hasAgreementOn_30 (by decide) ?_
      refine lv_icmp_eq (tgt := 67) hx hb dX3_hasAgreementOn_31 (by decide) (fun c3 => ?_) (fun c3 => ?_)
      · skip
        refine lv_iinc (v := (nI (3 * (b + 1) + d))) (lv' := [(3, .int (nI (3 * (b + 1) + d))), (0, .ref (ad 1 w)), (1, .int (nI d)), (2, .int (nI (3 * a + d)))]) hx hb dX3_hasAgreementOn_67 hl (k := 0) rfl (by show nI (3 * b + d) + nI 3 = _; rw [nI_add]; congr 1; omega) (by decide) rfl (fun ls hl => ?_)
        refine lv_goto (tgt := 15) hx hb dX3_hasAgreementOn_70 (by decide) ?_
        have hno : ¬ sp_ag2 mm w d a b := fun q => by first | exact q.1 c3 | exact q.2.1 c4 | exact c5 q.2.2
        exact ih15 (b + 1) _ _ _ (by show 3 - (b + 1) < 3 - b; omega) ⟨rfl, rfl, lv_sub hl [0, 1, 2, 3] rfl, by omega, by omega, fun b1 h1 h2 => by
          rcases Nat.lt_or_ge b1 b with q | q
          · exact hp5 b1 h1 q
          · have e6 : b1 = b := by omega
            subst e6; exact hno⟩
      · skip
        refine lv_aload_n hx hb dX3_hasAgreementOn_34 rfl (lv_at hl 1 rfl) ?_
        refine g_get (C := RX3) (T := TX3) (N := 8) (v := .ref (ad 2 w)) hF hK (hM 1 w _ (kc_w (by assumption))) rfl inlX3 7 (by decide) rfl wd_f_X3_19 rfl dX3_hasAgreementOn_35 ?_
        refine lv_iload_n hx hb dX3_hasAgreementOn_38 rfl (lv_at hl 0 rfl) ?_
        refine g_ald (t0 := 0) (i := 3 * b + d) hF hK (hM 2 w _ (kc_d (by assumption))) rfl rfl (by omega) (by decide) dX3_hasAgreementOn_39 ?_
        refine bo_to (v := (mm 20 (9 * w + (3 * b + d)))) (if_pos (by omega)) ?_
        refine lv_iconst (v := (-1)) hx hb dX3_hasAgreementOn_40 (by decide) ?_
        refine lv_icmp_eq (tgt := 67) hx hb dX3_hasAgreementOn_41 (by decide) (fun c4 => ?_) (fun c4 => ?_)
        · skip
          refine lv_iinc (v := (nI (3 * (b + 1) + d))) (lv' := [(3, .int (nI (3 * (b + 1) + d))), (0, .ref (ad 1 w)), (1, .int (nI d)), (2, .int (nI (3 * a + d)))]) hx hb dX3_hasAgreementOn_67 hl (k := 0) rfl (by show nI (3 * b + d) + nI 3 = _; rw [nI_add]; congr 1; omega) (by decide) rfl (fun ls hl => ?_)
          refine lv_goto (tgt := 15) hx hb dX3_hasAgreementOn_70 (by decide) ?_
          have hno : ¬ sp_ag2 mm w d a b := fun q => by first | exact q.1 c3 | exact q.2.1 c4 | exact c5 q.2.2
          exact ih15 (b + 1) _ _ _ (by show 3 - (b + 1) < 3 - b; omega) ⟨rfl, rfl, lv_sub hl [0, 1, 2, 3] rfl, by omega, by omega, fun b1 h1 h2 => by
            rcases Nat.lt_or_ge b1 b with q | q
            · exact hp5 b1 h1 q
            · have e6 : b1 = b := by omega
              subst e6; exact hno⟩
        · skip
          refine lv_aload_n hx hb dX3_hasAgreementOn_44 rfl (lv_at hl 1 rfl) ?_
          refine g_get (C := RX3) (T := TX3) (N := 8) (v := .ref (ad 2 w)) hF hK (hM 1 w _ (kc_w (by assumption))) rfl inlX3 7 (by decide) rfl wd_f_X3_19 rfl dX3_hasAgreementOn_45 ?_
          refine lv_iload_n hx hb dX3_hasAgreementOn_48 rfl (lv_at hl 3 rfl) ?_
          refine g_ald (t0 := 0) (i := 3 * a + d) hF hK (hM 2 w _ (kc_d (by assumption))) rfl rfl (by omega) (by decide) dX3_hasAgreementOn_49 ?_
          refine bo_to (v := (mm 20 (9 * w + (3 * a + d)))) (if_pos (by omega)) ?_
          refine lv_aload_n hx hb dX3_hasAgreementOn_50 rfl (lv_at hl 1 rfl) ?_
          refine g_get (C := RX3) (T := TX3) (N := 8) (v := .ref (ad 2 w)) hF hK (hM 1 w _ (kc_w (by assumption))) rfl inlX3 7 (by decide) rfl wd_f_X3_19 rfl dX3_hasAgreementOn_51 ?_
          refine lv_iload_n hx hb dX3_hasAgreementOn_54 rfl (lv_at hl 0 rfl) ?_
          refine g_ald (t0 := 0) (i := 3 * b + d) hF hK (hM 2 w _ (kc_d (by assumption))) rfl rfl (by omega) (by decide) dX3_hasAgreementOn_55 ?_
          refine bo_to (v := (mm 20 (9 * w + (3 * b + d)))) (if_pos (by omega)) ?_
          refine lv_imul hx hb dX3_hasAgreementOn_56 ?_
          refine lv_bipush (v := 100) hx hb dX3_hasAgreementOn_57 (by decide) ?_
          refine lv_idiv hx hb dX3_hasAgreementOn_59 (by decide) ?_
          refine lv_bipush (v := 20) hx hb dX3_hasAgreementOn_60 (by decide) ?_
          refine lv_icmp_gt (tgt := 67) hx hb dX3_hasAgreementOn_62 (by decide) (fun c5 => ?_) (fun c5 => ?_)
          · skip
            replace c5 := bo_nle c5
            refine lv_iinc (v := (nI (3 * (b + 1) + d))) (lv' := [(3, .int (nI (3 * (b + 1) + d))), (0, .ref (ad 1 w)), (1, .int (nI d)), (2, .int (nI (3 * a + d)))]) hx hb dX3_hasAgreementOn_67 hl (k := 0) rfl (by show nI (3 * b + d) + nI 3 = _; rw [nI_add]; congr 1; omega) (by decide) rfl (fun ls hl => ?_)
            refine lv_goto (tgt := 15) hx hb dX3_hasAgreementOn_70 (by decide) ?_
            have hno : ¬ sp_ag2 mm w d a b := fun q => by first | exact q.1 c3 | exact q.2.1 c4 | exact c5 q.2.2
            exact ih15 (b + 1) _ _ _ (by show 3 - (b + 1) < 3 - b; omega) ⟨rfl, rfl, lv_sub hl [0, 1, 2, 3] rfl, by omega, by omega, fun b1 h1 h2 => by
              rcases Nat.lt_or_ge b1 b with q | q
              · exact hp5 b1 h1 q
              · have e6 : b1 = b := by omega
                subst e6; exact hno⟩
          · skip
            replace c5 := bo_lt c5
            refine lv_iconst (v := 1) hx hb dX3_hasAgreementOn_65 (by decide) ?_
            exact rc_zret hx hb hr hlk (by first | exact Or.inl rfl | exact Or.inr rfl) (by rw [if_pos (agr_of hab hb4 ⟨c3, c4, c5⟩)]) dX3_hasAgreementOn_66
