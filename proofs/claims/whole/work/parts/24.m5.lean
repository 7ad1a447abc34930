theorem dX5_carAt_0 : decode cX5_carAt 0 = .ok (.aload_n 0, 1) := by decide +kernel
theorem dX5_carAt_1 : decode cX5_carAt 1 = .ok (.iload_n 1, 1) := by decide +kernel
theorem dX5_carAt_2 : decode cX5_carAt 2 = .ok (.invokestatic 140, 3) := by decide +kernel
theorem dX5_carAt_5 : decode cX5_carAt 5 = .ok (.invokevirtual 83, 3) := by decide +kernel
theorem dX5_carAt_8 : decode cX5_carAt 8 = .ok (.ifCond .eq 22, 3) := by decide +kernel
theorem dX5_carAt_11 : decode cX5_carAt 11 = .ok (.bipush 100, 2) := by decide +kernel
theorem dX5_carAt_13 : decode cX5_carAt 13 = .ok (.aload_n 0, 1) := by decide +kernel
theorem dX5_carAt_14 : decode cX5_carAt 14 = .ok (.getfield 49, 3) := by decide +kernel
theorem dX5_carAt_17 : decode cX5_carAt 17 = .ok (.iload_n 1, 1) := by decide +kernel
theorem dX5_carAt_18 : decode cX5_carAt 18 = .ok (.iaload, 1) := by decide +kernel
theorem dX5_carAt_19 : decode cX5_carAt 19 = .ok (.imul, 1) := by decide +kernel
theorem dX5_carAt_20 : decode cX5_carAt 20 = .ok (.aload_n 0, 1) := by decide +kernel
theorem dX5_carAt_21 : decode cX5_carAt 21 = .ok (.getfield 52, 3) := by decide +kernel
theorem dX5_carAt_24 : decode cX5_carAt 24 = .ok (.iload_n 1, 1) := by decide +kernel
theorem dX5_carAt_25 : decode cX5_carAt 25 = .ok (.iaload, 1) := by decide +kernel
theorem dX5_carAt_26 : decode cX5_carAt 26 = .ok (.iadd, 1) := by decide +kernel
theorem dX5_carAt_27 : decode cX5_carAt 27 = .ok (.goto 4, 3) := by decide +kernel
theorem dX5_carAt_30 : decode cX5_carAt 30 = .ok (.iconst 0, 1) := by decide +kernel
theorem dX5_carAt_31 : decode cX5_carAt 31 = .ok (.ireturn, 1) := by decide +kernel
theorem dX5_drive_0 : decode cX5_drive 0 = .ok (.aload_n 0, 1) := by decide +kernel
theorem dX5_drive_1 : decode cX5_drive 1 = .ok (.iload_n 1, 1) := by decide +kernel
theorem dX5_drive_2 : decode cX5_drive 2 = .ok (.invokestatic 140, 3) := by decide +kernel
theorem dX5_drive_5 : decode cX5_drive 5 = .ok (.ifCond .eq 15, 3) := by decide +kernel
theorem dX5_drive_8 : decode cX5_drive 8 = .ok (.iload_n 2, 1) := by decide +kernel
theorem dX5_drive_9 : decode cX5_drive 9 = .ok (.iload_n 3, 1) := by decide +kernel
theorem dX5_drive_10 : decode cX5_drive 10 = .ok (.invokestatic 79, 3) := by decide +kernel
theorem dX5_drive_13 : decode cX5_drive 13 = .ok (.ifCond .eq 7, 3) := by decide +kernel
theorem dX5_drive_16 : decode cX5_drive 16 = .ok (.iconst 1, 1) := by decide +kernel
theorem dX5_drive_17 : decode cX5_drive 17 = .ok (.goto 4, 3) := by decide +kernel
theorem dX5_drive_20 : decode cX5_drive 20 = .ok (.iconst 0, 1) := by decide +kernel
theorem dX5_drive_21 : decode cX5_drive 21 = .ok (.invokevirtual 83, 3) := by decide +kernel
theorem dX5_drive_24 : decode cX5_drive 24 = .ok (.ifCond .eq 13, 3) := by decide +kernel
theorem dX5_drive_27 : decode cX5_drive 27 = .ok (.aload_n 0, 1) := by decide +kernel
theorem dX5_drive_28 : decode cX5_drive 28 = .ok (.iload_n 1, 1) := by decide +kernel
theorem dX5_drive_29 : decode cX5_drive 29 = .ok (.iload_n 2, 1) := by decide +kernel
theorem dX5_drive_30 : decode cX5_drive 30 = .ok (.iload_n 3, 1) := by decide +kernel
theorem dX5_drive_31 : decode cX5_drive 31 = .ok (.invokevirtual 143, 3) := by decide +kernel
theorem dX5_drive_34 : decode cX5_drive 34 = .ok (.goto 4, 3) := by decide +kernel
theorem dX5_drive_37 : decode cX5_drive 37 = .ok (.iconst 0, 1) := by decide +kernel
theorem dX5_drive_38 : decode cX5_drive 38 = .ok (.ireturn, 1) := by decide +kernel
theorem dX5_far_0 : decode cX5_far 0 = .ok (.aload_n 0, 1) := by decide +kernel
theorem dX5_far_1 : decode cX5_far 1 = .ok (.getfield 49, 3) := by decide +kernel
theorem dX5_far_4 : decode cX5_far 4 = .ok (.iload_n 1, 1) := by decide +kernel
theorem dX5_far_5 : decode cX5_far 5 = .ok (.iaload, 1) := by decide +kernel
theorem dX5_far_6 : decode cX5_far 6 = .ok (.iload_n 2, 1) := by decide +kernel
theorem dX5_far_7 : decode cX5_far 7 = .ok (.if_icmp .le 14, 3) := by decide +kernel
theorem dX5_far_10 : decode cX5_far 10 = .ok (.aload_n 0, 1) := by decide +kernel
theorem dX5_far_11 : decode cX5_far 11 = .ok (.getfield 49, 3) := by decide +kernel
theorem dX5_far_14 : decode cX5_far 14 = .ok (.iload_n 1, 1) := by decide +kernel
theorem dX5_far_15 : decode cX5_far 15 = .ok (.iaload, 1) := by decide +kernel
theorem dX5_far_16 : decode cX5_far 16 = .ok (.iload_n 2, 1) := by decide +kernel
theorem dX5_far_17 : decode cX5_far 17 = .ok (.isub, 1) := by decide +kernel
theorem dX5_far_18 : decode cX5_far 18 = .ok (.goto 11, 3) := by decide +kernel
theorem dX5_far_21 : decode cX5_far 21 = .ok (.iload_n 2, 1) := by decide +kernel
theorem dX5_far_22 : decode cX5_far 22 = .ok (.aload_n 0, 1) := by decide +kernel
theorem dX5_far_23 : decode cX5_far 23 = .ok (.getfield 49, 3) := by decide +kernel
theorem dX5_far_26 : decode cX5_far 26 = .ok (.iload_n 1, 1) := by decide +kernel
theorem dX5_far_27 : decode cX5_far 27 = .ok (.iaload, 1) := by decide +kernel
theorem dX5_far_28 : decode cX5_far 28 = .ok (.isub, 1) := by decide +kernel
theorem dX5_far_29 : decode cX5_far 29 = .ok (.istore 4, 2) := by decide +kernel
theorem dX5_far_31 : decode cX5_far 31 = .ok (.aload_n 0, 1) := by decide +kernel
theorem dX5_far_32 : decode cX5_far 32 = .ok (.getfield 52, 3) := by decide +kernel
theorem dX5_far_35 : decode cX5_far 35 = .ok (.iload_n 1, 1) := by decide +kernel
theorem dX5_far_36 : decode cX5_far 36 = .ok (.iaload, 1) := by decide +kernel
theorem dX5_far_37 : decode cX5_far 37 = .ok (.iload_n 3, 1) := by decide +kernel
theorem dX5_far_38 : decode cX5_far 38 = .ok (.if_icmp .le 14, 3) := by decide +kernel
theorem dX5_far_41 : decode cX5_far 41 = .ok (.aload_n 0, 1) := by decide +kernel
theorem dX5_far_42 : decode cX5_far 42 = .ok (.getfield 52, 3) := by decide +kernel
theorem dX5_far_45 : decode cX5_far 45 = .ok (.iload_n 1, 1) := by decide +kernel
theorem dX5_far_46 : decode cX5_far 46 = .ok (.iaload, 1) := by decide +kernel
theorem dX5_far_47 : decode cX5_far 47 = .ok (.iload_n 3, 1) := by decide +kernel
theorem dX5_far_48 : decode cX5_far 48 = .ok (.isub, 1) := by decide +kernel
theorem dX5_far_49 : decode cX5_far 49 = .ok (.goto 11, 3) := by decide +kernel
theorem dX5_far_52 : decode cX5_far 52 = .ok (.iload_n 3, 1) := by decide +kernel
theorem dX5_far_53 : decode cX5_far 53 = .ok (.aload_n 0, 1) := by decide +kernel
theorem dX5_far_54 : decode cX5_far 54 = .ok (.getfield 52, 3) := by decide +kernel
theorem dX5_far_57 : decode cX5_far 57 = .ok (.iload_n 1, 1) := by decide +kernel
theorem dX5_far_58 : decode cX5_far 58 = .ok (.iaload, 1) := by decide +kernel
theorem dX5_far_59 : decode cX5_far 59 = .ok (.isub, 1) := by decide +kernel
theorem dX5_far_60 : decode cX5_far 60 = .ok (.istore 5, 2) := by decide +kernel
theorem dX5_far_62 : decode cX5_far 62 = .ok (.iload 4, 2) := by decide +kernel
theorem dX5_far_64 : decode cX5_far 64 = .ok (.iload 5, 2) := by decide +kernel
theorem dX5_far_66 : decode cX5_far 66 = .ok (.iadd, 1) := by decide +kernel
theorem dX5_far_67 : decode cX5_far 67 = .ok (.ireturn, 1) := by decide +kernel
theorem dX5_goes_0 : decode cX5_goes 0 = .ok (.aload_n 0, 1) := by decide +kernel
theorem dX5_goes_1 : decode cX5_goes 1 = .ok (.iload_n 1, 1) := by decide +kernel
theorem dX5_goes_2 : decode cX5_goes 2 = .ok (.iload_n 2, 1) := by decide +kernel
theorem dX5_goes_3 : decode cX5_goes 3 = .ok (.iload_n 3, 1) := by decide +kernel
theorem dX5_goes_4 : decode cX5_goes 4 = .ok (.invokevirtual 137, 3) := by decide +kernel
theorem dX5_goes_7 : decode cX5_goes 7 = .ok (.istore 4, 2) := by decide +kernel
theorem dX5_goes_9 : decode cX5_goes 9 = .ok (.aload_n 0, 1) := by decide +kernel
theorem dX5_goes_10 : decode cX5_goes 10 = .ok (.getfield 49, 3) := by decide +kernel
theorem dX5_goes_13 : decode cX5_goes 13 = .ok (.iload_n 1, 1) := by decide +kernel
theorem dX5_goes_14 : decode cX5_goes 14 = .ok (.iload_n 2, 1) := by decide +kernel
theorem dX5_goes_15 : decode cX5_goes 15 = .ok (.iastore, 1) := by decide +kernel
theorem dX5_goes_16 : decode cX5_goes 16 = .ok (.aload_n 0, 1) := by decide +kernel
theorem dX5_goes_17 : decode cX5_goes 17 = .ok (.getfield 52, 3) := by decide +kernel
theorem dX5_goes_20 : decode cX5_goes 20 = .ok (.iload_n 1, 1) := by decide +kernel
theorem dX5_goes_21 : decode cX5_goes 21 = .ok (.iload_n 3, 1) := by decide +kernel
theorem dX5_goes_22 : decode cX5_goes 22 = .ok (.iastore, 1) := by decide +kernel
theorem dX5_goes_23 : decode cX5_goes 23 = .ok (.iload 4, 2) := by decide +kernel
theorem dX5_goes_25 : decode cX5_goes 25 = .ok (.ireturn, 1) := by decide +kernel
theorem dX5_isIn_0 : decode cX5_isIn 0 = .ok (.bipush 16, 2) := by decide +kernel
theorem dX5_isIn_2 : decode cX5_isIn 2 = .ok (.iload_n 2, 1) := by decide +kernel
theorem dX5_isIn_3 : decode cX5_isIn 3 = .ok (.ishr, 1) := by decide +kernel
theorem dX5_isIn_4 : decode cX5_isIn 4 = .ok (.istore 5, 2) := by decide +kernel
theorem dX5_isIn_6 : decode cX5_isIn 6 = .ok (.aload_n 0, 1) := by decide +kernel
theorem dX5_isIn_7 : decode cX5_isIn 7 = .ok (.getfield 13, 3) := by decide +kernel
theorem dX5_isIn_10 : decode cX5_isIn 10 = .ok (.iload_n 1, 1) := by decide +kernel
theorem dX5_isIn_11 : decode cX5_isIn 11 = .ok (.iaload, 1) := by decide +kernel
theorem dX5_isIn_12 : decode cX5_isIn 12 = .ok (.iload 5, 2) := by decide +kernel
theorem dX5_isIn_14 : decode cX5_isIn 14 = .ok (.iload_n 3, 1) := by decide +kernel
theorem dX5_isIn_15 : decode cX5_isIn 15 = .ok (.iconst 1, 1) := by decide +kernel
theorem dX5_isIn_16 : decode cX5_isIn 16 = .ok (.iadd, 1) := by decide +kernel
theorem dX5_isIn_17 : decode cX5_isIn 17 = .ok (.imul, 1) := by decide +kernel
theorem dX5_isIn_18 : decode cX5_isIn 18 = .ok (.if_icmp .gt 50, 3) := by decide +kernel
theorem dX5_isIn_21 : decode cX5_isIn 21 = .ok (.aload_n 0, 1) := by decide +kernel
theorem dX5_isIn_22 : decode cX5_isIn 22 = .ok (.getfield 19, 3) := by decide +kernel
theorem dX5_isIn_25 : decode cX5_isIn 25 = .ok (.iload_n 1, 1) := by decide +kernel
theorem dX5_isIn_26 : decode cX5_isIn 26 = .ok (.iaload, 1) := by decide +kernel
theorem dX5_isIn_27 : decode cX5_isIn 27 = .ok (.iload 5, 2) := by decide +kernel
theorem dX5_isIn_29 : decode cX5_isIn 29 = .ok (.iload_n 3, 1) := by decide +kernel
theorem dX5_isIn_30 : decode cX5_isIn 30 = .ok (.imul, 1) := by decide +kernel
theorem dX5_isIn_31 : decode cX5_isIn 31 = .ok (.if_icmp .lt 37, 3) := by decide +kernel
theorem dX5_isIn_34 : decode cX5_isIn 34 = .ok (.aload_n 0, 1) := by decide +kernel
theorem dX5_isIn_35 : decode cX5_isIn 35 = .ok (.getfield 16, 3) := by decide +kernel
theorem dX5_isIn_38 : decode cX5_isIn 38 = .ok (.iload_n 1, 1) := by decide +kernel
theorem dX5_isIn_39 : decode cX5_isIn 39 = .ok (.iaload, 1) := by decide +kernel
theorem dX5_isIn_40 : decode cX5_isIn 40 = .ok (.iload 5, 2) := by decide +kernel
theorem dX5_isIn_42 : decode cX5_isIn 42 = .ok (.iload 4, 2) := by decide +kernel
theorem dX5_isIn_44 : decode cX5_isIn 44 = .ok (.iconst 1, 1) := by decide +kernel
theorem dX5_isIn_45 : decode cX5_isIn 45 = .ok (.iadd, 1) := by decide +kernel
theorem dX5_isIn_46 : decode cX5_isIn 46 = .ok (.imul, 1) := by decide +kernel
theorem dX5_isIn_47 : decode cX5_isIn 47 = .ok (.if_icmp .gt 21, 3) := by decide +kernel
theorem dX5_isIn_50 : decode cX5_isIn 50 = .ok (.aload_n 0, 1) := by decide +kernel
theorem dX5_isIn_51 : decode cX5_isIn 51 = .ok (.getfield 22, 3) := by decide +kernel
theorem dX5_isIn_54 : decode cX5_isIn 54 = .ok (.iload_n 1, 1) := by decide +kernel
theorem dX5_isIn_55 : decode cX5_isIn 55 = .ok (.iaload, 1) := by decide +kernel
theorem dX5_isIn_56 : decode cX5_isIn 56 = .ok (.iload 5, 2) := by decide +kernel
theorem dX5_isIn_58 : decode cX5_isIn 58 = .ok (.iload 4, 2) := by decide +kernel
theorem dX5_isIn_60 : decode cX5_isIn 60 = .ok (.imul, 1) := by decide +kernel
theorem dX5_isIn_61 : decode cX5_isIn 61 = .ok (.if_icmp .lt 7, 3) := by decide +kernel
theorem dX5_isIn_64 : decode cX5_isIn 64 = .ok (.iconst 1, 1) := by decide +kernel
theorem dX5_isIn_65 : decode cX5_isIn 65 = .ok (.goto 4, 3) := by decide +kernel
theorem dX5_isIn_68 : decode cX5_isIn 68 = .ok (.iconst 0, 1) := by decide +kernel
theorem dX5_isIn_69 : decode cX5_isIn 69 = .ok (.ireturn, 1) := by decide +kernel
theorem dX5_placeOf_0 : decode cX5_placeOf 0 = .ok (.aload_n 0, 1) := by decide +kernel
theorem dX5_placeOf_1 : decode cX5_placeOf 1 = .ok (.aload_n 0, 1) := by decide +kernel
theorem dX5_placeOf_2 : decode cX5_placeOf 2 = .ok (.iload_n 1, 1) := by decide +kernel
theorem dX5_placeOf_3 : decode cX5_placeOf 3 = .ok (.invokevirtual 95, 3) := by decide +kernel
theorem dX5_placeOf_6 : decode cX5_placeOf 6 = .ok (.ifCond .eq 21, 3) := by decide +kernel
theorem dX5_placeOf_9 : decode cX5_placeOf 9 = .ok (.iload_n 2, 1) := by decide +kernel
theorem dX5_placeOf_10 : decode cX5_placeOf 10 = .ok (.ifCond .lt 17, 3) := by decide +kernel
theorem dX5_placeOf_13 : decode cX5_placeOf 13 = .ok (.iload_n 2, 1) := by decide +kernel
theorem dX5_placeOf_14 : decode cX5_placeOf 14 = .ok (.aload_n 0, 1) := by decide +kernel
theorem dX5_placeOf_15 : decode cX5_placeOf 15 = .ok (.getfield 28, 3) := by decide +kernel
theorem dX5_placeOf_18 : decode cX5_placeOf 18 = .ok (.iload_n 1, 1) := by decide +kernel
theorem dX5_placeOf_19 : decode cX5_placeOf 19 = .ok (.iaload, 1) := by decide +kernel
theorem dX5_placeOf_20 : decode cX5_placeOf 20 = .ok (.if_icmp .ge 7, 3) := by decide +kernel
theorem dX5_placeOf_23 : decode cX5_placeOf 23 = .ok (.iconst 1, 1) := by decide +kernel
theorem dX5_placeOf_24 : decode cX5_placeOf 24 = .ok (.goto 4, 3) := by decide +kernel
theorem dX5_placeOf_27 : decode cX5_placeOf 27 = .ok (.iconst 0, 1) := by decide +kernel
theorem dX5_placeOf_28 : decode cX5_placeOf 28 = .ok (.invokevirtual 83, 3) := by decide +kernel
theorem dX5_placeOf_31 : decode cX5_placeOf 31 = .ok (.ifCond .ne 5, 3) := by decide +kernel
theorem dX5_placeOf_34 : decode cX5_placeOf 34 = .ok (.iconst (-1), 1) := by decide +kernel
theorem dX5_placeOf_35 : decode cX5_placeOf 35 = .ok (.ireturn, 1) := by decide +kernel
theorem dX5_placeOf_36 : decode cX5_placeOf 36 = .ok (.aload_n 0, 1) := by decide +kernel
theorem dX5_placeOf_37 : decode cX5_placeOf 37 = .ok (.getfield 31, 3) := by decide +kernel
theorem dX5_placeOf_40 : decode cX5_placeOf 40 = .ok (.iload_n 1, 1) := by decide +kernel
theorem dX5_placeOf_41 : decode cX5_placeOf 41 = .ok (.iaload, 1) := by decide +kernel
theorem dX5_placeOf_42 : decode cX5_placeOf 42 = .ok (.istore_n 3, 1) := by decide +kernel
theorem dX5_placeOf_43 : decode cX5_placeOf 43 = .ok (.aload_n 0, 1) := by decide +kernel
theorem dX5_placeOf_44 : decode cX5_placeOf 44 = .ok (.getfield 28, 3) := by decide +kernel
theorem dX5_placeOf_47 : decode cX5_placeOf 47 = .ok (.iload_n 1, 1) := by decide +kernel
theorem dX5_placeOf_48 : decode cX5_placeOf 48 = .ok (.iaload, 1) := by decide +kernel
theorem dX5_placeOf_49 : decode cX5_placeOf 49 = .ok (.iconst 1, 1) := by decide +kernel
theorem dX5_placeOf_50 : decode cX5_placeOf 50 = .ok (.isub, 1) := by decide +kernel
theorem dX5_placeOf_51 : decode cX5_placeOf 51 = .ok (.istore 4, 2) := by decide +kernel
theorem dX5_placeOf_53 : decode cX5_placeOf 53 = .ok (.iload 4, 2) := by decide +kernel
theorem dX5_placeOf_55 : decode cX5_placeOf 55 = .ok (.iload_n 2, 1) := by decide +kernel
theorem dX5_placeOf_56 : decode cX5_placeOf 56 = .ok (.if_icmp .le 16, 3) := by decide +kernel
theorem dX5_placeOf_59 : decode cX5_placeOf 59 = .ok (.aload_n 0, 1) := by decide +kernel
theorem dX5_placeOf_60 : decode cX5_placeOf 60 = .ok (.getfield 40, 3) := by decide +kernel
theorem dX5_placeOf_63 : decode cX5_placeOf 63 = .ok (.iload_n 3, 1) := by decide +kernel
theorem dX5_placeOf_64 : decode cX5_placeOf 64 = .ok (.iaload, 1) := by decide +kernel
theorem dX5_placeOf_65 : decode cX5_placeOf 65 = .ok (.istore_n 3, 1) := by decide +kernel
theorem dX5_placeOf_66 : decode cX5_placeOf 66 = .ok (.iinc 4 (-1), 3) := by decide +kernel
theorem dX5_placeOf_69 : decode cX5_placeOf 69 = .ok (.goto (-16), 3) := by decide +kernel
theorem dX5_placeOf_72 : decode cX5_placeOf 72 = .ok (.iload_n 3, 1) := by decide +kernel
theorem dX5_placeOf_73 : decode cX5_placeOf 73 = .ok (.ireturn, 1) := by decide +kernel
theorem dX5_stampOf_0 : decode cX5_stampOf 0 = .ok (.aload_n 0, 1) := by decide +kernel
theorem dX5_stampOf_1 : decode cX5_stampOf 1 = .ok (.iload_n 1, 1) := by decide +kernel
theorem dX5_stampOf_2 : decode cX5_stampOf 2 = .ok (.iload_n 2, 1) := by decide +kernel
theorem dX5_stampOf_3 : decode cX5_stampOf 3 = .ok (.invokevirtual 108, 3) := by decide +kernel
theorem dX5_stampOf_6 : decode cX5_stampOf 6 = .ok (.istore_n 3, 1) := by decide +kernel
theorem dX5_stampOf_7 : decode cX5_stampOf 7 = .ok (.iload_n 3, 1) := by decide +kernel
theorem dX5_stampOf_8 : decode cX5_stampOf 8 = .ok (.iconst (-1), 1) := by decide +kernel
theorem dX5_stampOf_9 : decode cX5_stampOf 9 = .ok (.if_icmp .ne 7, 3) := by decide +kernel
theorem dX5_stampOf_12 : decode cX5_stampOf 12 = .ok (.iconst 0, 1) := by decide +kernel
theorem dX5_stampOf_13 : decode cX5_stampOf 13 = .ok (.goto 6, 3) := by decide +kernel
theorem dX5_stampOf_16 : decode cX5_stampOf 16 = .ok (.iload_n 3, 1) := by decide +kernel
theorem dX5_stampOf_17 : decode cX5_stampOf 17 = .ok (.iconst 1, 1) := by decide +kernel
theorem dX5_stampOf_18 : decode cX5_stampOf 18 = .ok (.iadd, 1) := by decide +kernel
theorem dX5_stampOf_19 : decode cX5_stampOf 19 = .ok (.ireturn, 1) := by decide +kernel
theorem dX5_tileAt_0 : decode cX5_tileAt 0 = .ok (.iload_n 1, 1) := by decide +kernel
theorem dX5_tileAt_1 : decode cX5_tileAt 1 = .ok (.ifCond .lt 12, 3) := by decide +kernel
theorem dX5_tileAt_4 : decode cX5_tileAt 4 = .ok (.iload_n 1, 1) := by decide +kernel
theorem dX5_tileAt_5 : decode cX5_tileAt 5 = .ok (.iconst 5, 1) := by decide +kernel
theorem dX5_tileAt_6 : decode cX5_tileAt 6 = .ok (.if_icmp .ge 7, 3) := by decide +kernel
theorem dX5_tileAt_9 : decode cX5_tileAt 9 = .ok (.iconst 1, 1) := by decide +kernel
theorem dX5_tileAt_10 : decode cX5_tileAt 10 = .ok (.goto 4, 3) := by decide +kernel
theorem dX5_tileAt_13 : decode cX5_tileAt 13 = .ok (.iconst 0, 1) := by decide +kernel
theorem dX5_tileAt_14 : decode cX5_tileAt 14 = .ok (.istore 4, 2) := by decide +kernel
theorem dX5_tileAt_16 : decode cX5_tileAt 16 = .ok (.iload 4, 2) := by decide +kernel
theorem dX5_tileAt_18 : decode cX5_tileAt 18 = .ok (.ifCond .eq 9, 3) := by decide +kernel
theorem dX5_tileAt_21 : decode cX5_tileAt 21 = .ok (.iconst 1, 1) := by decide +kernel
theorem dX5_tileAt_22 : decode cX5_tileAt 22 = .ok (.iload_n 1, 1) := by decide +kernel
theorem dX5_tileAt_23 : decode cX5_tileAt 23 = .ok (.ishl, 1) := by decide +kernel
theorem dX5_tileAt_24 : decode cX5_tileAt 24 = .ok (.goto 4, 3) := by decide +kernel
theorem dX5_tileAt_27 : decode cX5_tileAt 27 = .ok (.iconst 0, 1) := by decide +kernel
theorem dX5_tileAt_28 : decode cX5_tileAt 28 = .ok (.istore 5, 2) := by decide +kernel
theorem dX5_tileAt_30 : decode cX5_tileAt 30 = .ok (.aload_n 0, 1) := by decide +kernel
theorem dX5_tileAt_31 : decode cX5_tileAt 31 = .ok (.iload 4, 2) := by decide +kernel
theorem dX5_tileAt_33 : decode cX5_tileAt 33 = .ok (.ifCond .eq 31, 3) := by decide +kernel
theorem dX5_tileAt_36 : decode cX5_tileAt 36 = .ok (.iload_n 2, 1) := by decide +kernel
theorem dX5_tileAt_37 : decode cX5_tileAt 37 = .ok (.iconst 0, 1) := by decide +kernel
theorem dX5_tileAt_38 : decode cX5_tileAt 38 = .ok (.iload 5, 2) := by decide +kernel
theorem dX5_tileAt_40 : decode cX5_tileAt 40 = .ok (.iconst 1, 1) := by decide +kernel
theorem dX5_tileAt_41 : decode cX5_tileAt 41 = .ok (.isub, 1) := by decide +kernel
theorem dX5_tileAt_42 : decode cX5_tileAt 42 = .ok (.invokestatic 65, 3) := by decide +kernel
theorem dX5_tileAt_45 : decode cX5_tileAt 45 = .ok (.ifCond .eq 19, 3) := by decide +kernel
theorem dX5_tileAt_48 : decode cX5_tileAt 48 = .ok (.iload_n 3, 1) := by decide +kernel
theorem dX5_tileAt_49 : decode cX5_tileAt 49 = .ok (.iconst 0, 1) := by decide +kernel
theorem dX5_tileAt_50 : decode cX5_tileAt 50 = .ok (.iload 5, 2) := by decide +kernel
theorem dX5_tileAt_52 : decode cX5_tileAt 52 = .ok (.iconst 1, 1) := by decide +kernel
theorem dX5_tileAt_53 : decode cX5_tileAt 53 = .ok (.isub, 1) := by decide +kernel
theorem dX5_tileAt_54 : decode cX5_tileAt 54 = .ok (.invokestatic 65, 3) := by decide +kernel
theorem dX5_tileAt_57 : decode cX5_tileAt 57 = .ok (.ifCond .eq 7, 3) := by decide +kernel
theorem dX5_tileAt_60 : decode cX5_tileAt 60 = .ok (.iconst 1, 1) := by decide +kernel
theorem dX5_tileAt_61 : decode cX5_tileAt 61 = .ok (.goto 4, 3) := by decide +kernel
theorem dX5_tileAt_64 : decode cX5_tileAt 64 = .ok (.iconst 0, 1) := by decide +kernel
theorem dX5_tileAt_65 : decode cX5_tileAt 65 = .ok (.invokevirtual 83, 3) := by decide +kernel
theorem dX5_tileAt_68 : decode cX5_tileAt 68 = .ok (.ifCond .ne 5, 3) := by decide +kernel
theorem dX5_tileAt_71 : decode cX5_tileAt 71 = .ok (.iconst (-1), 1) := by decide +kernel
theorem dX5_tileAt_72 : decode cX5_tileAt 72 = .ok (.ireturn, 1) := by decide +kernel
theorem dX5_tileAt_73 : decode cX5_tileAt 73 = .ok (.iload 5, 2) := by decide +kernel
theorem dX5_tileAt_75 : decode cX5_tileAt 75 = .ok (.iload 5, 2) := by decide +kernel
theorem dX5_tileAt_77 : decode cX5_tileAt 77 = .ok (.imul, 1) := by decide +kernel
theorem dX5_tileAt_78 : decode cX5_tileAt 78 = .ok (.iconst 1, 1) := by decide +kernel
theorem dX5_tileAt_79 : decode cX5_tileAt 79 = .ok (.isub, 1) := by decide +kernel
theorem dX5_tileAt_80 : decode cX5_tileAt 80 = .ok (.iconst 3, 1) := by decide +kernel
theorem dX5_tileAt_81 : decode cX5_tileAt 81 = .ok (.idiv, 1) := by decide +kernel
theorem dX5_tileAt_82 : decode cX5_tileAt 82 = .ok (.iload 5, 2) := by decide +kernel
theorem dX5_tileAt_84 : decode cX5_tileAt 84 = .ok (.iload_n 3, 1) := by decide +kernel
theorem dX5_tileAt_85 : decode cX5_tileAt 85 = .ok (.imul, 1) := by decide +kernel
theorem dX5_tileAt_86 : decode cX5_tileAt 86 = .ok (.iadd, 1) := by decide +kernel
theorem dX5_tileAt_87 : decode cX5_tileAt 87 = .ok (.iload_n 2, 1) := by decide +kernel
theorem dX5_tileAt_88 : decode cX5_tileAt 88 = .ok (.iadd, 1) := by decide +kernel
theorem dX5_tileAt_89 : decode cX5_tileAt 89 = .ok (.ireturn, 1) := by decide +kernel
theorem dX5_version_0 : decode cX5_version 0 = .ok (.aload_n 0, 1) := by decide +kernel
theorem dX5_version_1 : decode cX5_version 1 = .ok (.iload_n 1, 1) := by decide +kernel
theorem dX5_version_2 : decode cX5_version 2 = .ok (.iload_n 2, 1) := by decide +kernel
theorem dX5_version_3 : decode cX5_version 3 = .ok (.invokevirtual 108, 3) := by decide +kernel
theorem dX5_version_6 : decode cX5_version 6 = .ok (.istore_n 3, 1) := by decide +kernel
theorem dX5_version_7 : decode cX5_version 7 = .ok (.iload_n 3, 1) := by decide +kernel
theorem dX5_version_8 : decode cX5_version 8 = .ok (.iconst (-1), 1) := by decide +kernel
theorem dX5_version_9 : decode cX5_version 9 = .ok (.if_icmp .ne 7, 3) := by decide +kernel
theorem dX5_version_12 : decode cX5_version 12 = .ok (.iconst 0, 1) := by decide +kernel
theorem dX5_version_13 : decode cX5_version 13 = .ok (.goto 13, 3) := by decide +kernel
theorem dX5_version_16 : decode cX5_version 16 = .ok (.aload_n 0, 1) := by decide +kernel
theorem dX5_version_17 : decode cX5_version 17 = .ok (.getfield 37, 3) := by decide +kernel
theorem dX5_version_20 : decode cX5_version 20 = .ok (.iload_n 3, 1) := by decide +kernel
theorem dX5_version_21 : decode cX5_version 21 = .ok (.iaload, 1) := by decide +kernel
theorem dX5_version_22 : decode cX5_version 22 = .ok (.sipush 1000, 3) := by decide +kernel
theorem dX5_version_25 : decode cX5_version 25 = .ok (.irem, 1) := by decide +kernel
theorem dX5_version_26 : decode cX5_version 26 = .ok (.ireturn, 1) := by decide +kernel
theorem ke_X5_tileAt : wl_V RX5 yX5_tileAt cX5_tileAt 6 (some .int) 3 := ⟨wd_c_X5_tileAt, wd_i_X5_tileAt, wd_s_X5_tileAt, wd_n_X5, by decide, by decide +kernel⟩
set_option maxHeartbeats 4000000 in
set_option maxRecDepth 100000 in
theorem m_X5_tileAt (l : Launch) (D : va_G) (cI : ClassId) (o : Nat) (a : Nat → Nat) (mm : q_Mem) (hMD : mo_D o a) (z x y : Int32)  : mo_Ci l yX5_tileAt cX5_tileAt 6 (some .int) 1 22 D cI o a mm [.int z, .int x, .int y] (fun r m1 => if sp_tl z x y then r = nI (sp_t z x y) ∧ m1 = up2 mm 19 0 0 else r = -1 ∧ m1 = up2 mm 19 0 1) := by
  refine mo_ofQ (by decide) (Nat.le_of_ble_eq_true rfl) ?_
  intro p e s m args below meth c hx hb hr hF hlk hM hK hS ls hl
  have hA : ∀ q, mo_R o a q → mo_R o a q := fun _ h => h
  have hl : lv_has ls 6 [(0, .ref o), (1, .int z), (2, .int x), (3, .int y)] := hl
  have hf : (0 : Nat) ≤ 0 ∧ (0 : Nat) ≤ 0 := ⟨Nat.le_refl 0, Nat.le_refl 0⟩
  refine bo_cut (ls := ls) (tgt := 14) (E := if sp_zm z then 1 else 0) (rest := []) (fun vz evz => ?_) (fun J14 => ?_)
  · skip
    refine lv_istore (lv' := [(4, .int vz), (0, .ref o), (1, .int z), (2, .int x), (3, .int y)]) hx hb dX5_tileAt_14 hl (by decide) rfl (fun ls hl => ?_)
    refine bo_cut (ls := ls) (tgt := 28) (E := if sp_zm z then sp_mn z else 0) (rest := []) (fun vm evm => ?_) (fun J28 => ?_)
    · skip
      refine lv_istore (lv' := [(5, .int vm), (4, .int vz), (0, .ref o), (1, .int z), (2, .int x), (3, .int y)]) hx hb dX5_tileAt_28 hl (by decide) rfl (fun ls hl => ?_)
      refine lv_aload_n hx hb dX5_tileAt_30 rfl (lv_at hl 2 rfl) ?_
      refine bo_cut (ls := ls) (tgt := 65) (E := if sp_tl z x y then 1 else 0) (rest := [.ref o]) (fun va eva => ?_) (fun J65 => ?_)
      · skip
        refine mo_iV (fr := 0) (lo := 0) (As := [.int va]) (rest := []) hF (m_X5_asks l D cI o a mm hMD va (sp_tl z x y) eva) ke_X5_asks wd_l_X5_83 (by decide) hK hM hS hA rfl hl.1 rfl (Nat.le_of_ble_eq_true rfl) dX5_tileAt_65 hf (fun r4 mm5 H locs hr4 hM hS _ _ => ?_)
        obtain ⟨hr4, hmm5⟩ := hr4
        subst hmm5
        have hbr4 := hr4.trans eva
        refine bo_ne (tgt := 73) hbr4 hx hb dX5_tileAt_68 (by decide) (fun cP => ?_) (fun cP => ?_)
        · skip
          rw [if_pos cP] at hM
          rw [if_pos cP.1] at evm
          subst evm
          obtain ⟨zi, xi, yi, hz, hx1, hy1, rfl, rfl, rfl⟩ := nt_tl cP
          refine lv_iload hx hb dX5_tileAt_73 (lv_at hl 0 rfl) ?_
          refine lv_iload hx hb dX5_tileAt_75 (lv_at hl 0 rfl) ?_
          refine lv_imul hx hb dX5_tileAt_77 ?_
          refine lv_iconst (v := 1) hx hb dX5_tileAt_78 (by decide) ?_
          refine lv_isub hx hb dX5_tileAt_79 ?_
          refine lv_iconst (v := 3) hx hb dX5_tileAt_80 (by decide) ?_
          refine lv_idiv hx hb dX5_tileAt_81 (by decide) ?_
          refine lv_iload hx hb dX5_tileAt_82 (lv_at hl 0 rfl) ?_
          refine lv_iload_n hx hb dX5_tileAt_84 rfl (lv_at hl 5 rfl) ?_
          refine lv_imul hx hb dX5_tileAt_85 ?_
          refine lv_iadd hx hb dX5_tileAt_86 ?_
          refine lv_iload_n hx hb dX5_tileAt_87 rfl (lv_at hl 4 rfl) ?_
          refine lv_iadd hx hb dX5_tileAt_88 ?_
          refine bo_to (v := (nI (tb_i zi xi yi))) (tb_raw hz hx1 hy1) ?_
          exact mo_iret hx hb hr hlk hK hM hS (by rw [if_pos cP]; exact ⟨by have h1 := pw_le zi hz; rw [sp_t, nt_c (by omega), nt_c (by omega), nt_c (by omega)], rfl⟩) dX5_tileAt_89
        · skip
          rw [if_neg cP] at hM
          refine lv_iconst (v := (-1)) hx hb dX5_tileAt_71 (by decide) ?_
          exact mo_iret hx hb hr hlk hK hM hS (by rw [if_neg cP]; exact ⟨rfl, rfl⟩) dX5_tileAt_72
      · skip
        refine lv_iload hx hb dX5_tileAt_31 (lv_at hl 1 rfl) ?_
        refine bo_eq (tgt := 64) evz hx hb dX5_tileAt_33 (by decide) (fun c4 => ?_) (fun c4 => ?_)
        · skip
          refine lv_iconst (v := 0) hx hb dX5_tileAt_64 (by decide) ?_
          exact J65 _ (by first | exact bo_p ⟨c4, c5, c6⟩ | exact bo_n (fun q => c4 q.1) | exact bo_n (fun q => c5 q.2.1) | exact bo_n (fun q => c6 q.2.2))
        · skip
          rw [if_pos c4] at evm
          subst evm
          refine lv_iload_n hx hb dX5_tileAt_36 rfl (lv_at hl 4 rfl) ?_
          refine lv_iconst (v := 0) hx hb dX5_tileAt_37 (by decide) ?_
          refine lv_iload hx hb dX5_tileAt_38 (lv_at hl 0 rfl) ?_
          refine lv_iconst (v := 1) hx hb dX5_tileAt_40 (by decide) ?_
          refine lv_isub hx hb dX5_tileAt_41 ?_
          refine rc_S (fr := 0) (lo := 0) (As := [.int x, .int 0, .int ((sp_mn z) - 1)]) (rest := [.ref o]) hF (m_X5_in l x 0 ((sp_mn z) - 1)) ke_X5_in wd_l_X5_65 (by decide) bl_true (fun _ _ _ => trivial) rfl hl.1 rfl (Nat.le_of_ble_eq_true rfl) dX5_tileAt_42 hf (fun r6 hr6 => ?_)
          refine bo_eq (tgt := 64) hr6 hx hb dX5_tileAt_45 (by decide) (fun c5 => ?_) (fun c5 => ?_)
          · skip
            refine lv_iconst (v := 0) hx hb dX5_tileAt_64 (by decide) ?_
            exact J65 _ (by first | exact bo_p ⟨c4, c5, c6⟩ | exact bo_n (fun q => c4 q.1) | exact bo_n (fun q => c5 q.2.1) | exact bo_n (fun q => c6 q.2.2))
          · skip
            refine lv_iload_n hx hb dX5_tileAt_48 rfl (lv_at hl 5 rfl) ?_
            refine lv_iconst (v := 0) hx hb dX5_tileAt_49 (by decide) ?_
            refine lv_iload hx hb dX5_tileAt_50 (lv_at hl 0 rfl) ?_
            refine lv_iconst (v := 1) hx hb dX5_tileAt_52 (by decide) ?_
            refine lv_isub hx hb dX5_tileAt_53 ?_
            refine rc_S (fr := 0) (lo := 0) (As := [.int y, .int 0, .int ((sp_mn z) - 1)]) (rest := [.ref o]) hF (m_X5_in l y 0 ((sp_mn z) - 1)) ke_X5_in wd_l_X5_65 (by decide) bl_true (fun _ _ _ => trivial) rfl hl.1 rfl (Nat.le_of_ble_eq_true rfl) dX5_tileAt_54 hf (fun r7 hr7 => ?_)
            refine bo_eq (tgt := 64) hr7 hx hb dX5_tileAt_57 (by decide) (fun c6 => ?_) (fun c6 => ?_)
            · skip
              refine lv_iconst (v := 0) hx hb dX5_tileAt_64 (by decide) ?_
              exact J65 _ (by first | exact bo_p ⟨c4, c5, c6⟩ | exact bo_n (fun q => c4 q.1) | exact bo_n (fun q => c5 q.2.1) | exact bo_n (fun q => c6 q.2.2))
            · skip
              refine lv_iconst (v := 1) hx hb dX5_tileAt_60 (by decide) ?_
              refine lv_goto (tgt := 65) hx hb dX5_tileAt_61 (by decide) ?_
              exact J65 _ (by first | exact bo_p ⟨c4, c5, c6⟩ | exact bo_n (fun q => c4 q.1) | exact bo_n (fun q => c5 q.2.1) | exact bo_n (fun q => c6 q.2.2))
    · skip
      refine lv_iload hx hb dX5_tileAt_16 (lv_at hl 0 rfl) ?_
      refine bo_eq (tgt := 27) evz hx hb dX5_tileAt_18 (by decide) (fun c3 => ?_) (fun c3 => ?_)
      · skip
        refine lv_iconst (v := 0) hx hb dX5_tileAt_27 (by decide) ?_
        exact J28 _ (by first | exact (if_pos c3).symm | exact (if_neg c3).symm)
      · skip
        refine lv_iconst (v := 1) hx hb dX5_tileAt_21 (by decide) ?_
        refine lv_iload_n hx hb dX5_tileAt_22 rfl (lv_at hl 2 rfl) ?_
        refine lv_ishl hx hb dX5_tileAt_23 ?_
        refine lv_goto (tgt := 28) hx hb dX5_tileAt_24 (by decide) ?_
        exact J28 _ (by first | exact (if_pos c3).symm | exact (if_neg c3).symm)
  · skip
    refine lv_iload_n hx hb dX5_tileAt_0 rfl (lv_at hl 1 rfl) ?_
    refine lv_if_lt (tgt := 13) hx hb dX5_tileAt_1 (by decide) (fun c1 => ?_) (fun c1 => ?_)
    · skip
      refine lv_iconst (v := 0) hx hb dX5_tileAt_13 (by decide) ?_
      exact J14 _ (by first | exact bo_p ⟨bo_lt c1, bo_le c2⟩ | exact bo_n (fun q => bo_nle c1 q.1) | exact bo_n (fun q => bo_nlt c2 q.2))
    · skip
      refine lv_iload_n hx hb dX5_tileAt_4 rfl (lv_at hl 1 rfl) ?_
      refine lv_iconst (v := 5) hx hb dX5_tileAt_5 (by decide) ?_
      refine lv_icmp_ge (tgt := 13) hx hb dX5_tileAt_6 (by decide) (fun c2 => ?_) (fun c2 => ?_)
      · skip
        refine lv_iconst (v := 0) hx hb dX5_tileAt_13 (by decide) ?_
        exact J14 _ (by first | exact bo_p ⟨bo_lt c1, bo_le c2⟩ | exact bo_n (fun q => bo_nle c1 q.1) | exact bo_n (fun q => bo_nlt c2 q.2))
      · skip
        refine lv_iconst (v := 1) hx hb dX5_tileAt_9 (by decide) ?_
        refine lv_goto (tgt := 14) hx hb dX5_tileAt_10 (by decide) ?_
        exact J14 _ (by first | exact bo_p ⟨bo_lt c1, bo_le c2⟩ | exact bo_n (fun q => bo_nle c1 q.1) | exact bo_n (fun q => bo_nlt c2 q.2))
theorem ke_X5_isIn : wl_V RX5 yX5_isIn cX5_isIn 6 (some .boolean) 4 := ⟨wd_c_X5_isIn, wd_i_X5_isIn, wd_s_X5_isIn, wd_n_X5, by decide, by decide +kernel⟩
set_option maxHeartbeats 4000000 in
set_option maxRecDepth 100000 in
theorem m_X5_isIn (l : Launch) (D : va_G) (cI : ClassId) (o : Nat) (a : Nat → Nat) (mm : q_Mem) (w : Nat) (z x y : Int32) (hw : w < 40) : rc_C l yX5_isIn cX5_isIn 6 (some .boolean) 0 0 [.ref o, .int (nI w), .int z, .int x, .int y] (mo_B D cI o a mm) (fun r => r = if sp_isin mm w z x y then 1 else 0) := by
  refine rc_of (by decide) (Nat.le_of_ble_eq_true rfl) ?_
  intro p e s m args below meth c hx hb hr hF hlk hB ls hl
  obtain ⟨hM, hK⟩ := hB
  have hl : lv_has ls 6 [(0, .ref o), (1, .int (nI w)), (2, .int z), (3, .int x), (4, .int y)] := hl
  have hf : (0 : Nat) ≤ 0 ∧ (0 : Nat) ≤ 0 := ⟨Nat.le_refl 0, Nat.le_refl 0⟩
  refine lv_bipush (v := 16) hx hb dX5_isIn_0 (by decide) ?_
  refine lv_iload_n hx hb dX5_isIn_2 rfl (lv_at hl 2 rfl) ?_
  refine lv_ishr hx hb dX5_isIn_3 ?_
  refine bo_to (v := (sp_sd z)) (rfl) ?_
  refine lv_istore (lv' := [(5, .int (sp_sd z)), (0, .ref o), (1, .int (nI w)), (2, .int z), (3, .int x), (4, .int y)]) hx hb dX5_isIn_4 hl (by decide) rfl (fun ls hl => ?_)
  refine lv_aload_n hx hb dX5_isIn_6 rfl (lv_at hl 1 rfl) ?_
  refine mo_get hF hK hM 2 (by decide) wd_f_X5_13 rfl dX5_isIn_7 ?_
  refine lv_iload_n hx hb dX5_isIn_10 rfl (lv_at hl 2 rfl) ?_
  refine mo_ald hF hK hM 2 w (by decide) rfl (by exact hw) dX5_isIn_11 ?_
  refine lv_iload hx hb dX5_isIn_12 (lv_at hl 0 rfl) ?_
  refine lv_iload_n hx hb dX5_isIn_14 rfl (lv_at hl 4 rfl) ?_
  refine lv_iconst (v := 1) hx hb dX5_isIn_15 (by decide) ?_
  refine lv_iadd hx hb dX5_isIn_16 ?_
  refine lv_imul hx hb dX5_isIn_17 ?_
  refine lv_icmp_gt (tgt := 68) hx hb dX5_isIn_18 (by decide) (fun c1 => ?_) (fun c1 => ?_)
  · skip
    refine lv_iconst (v := 0) hx hb dX5_isIn_68 (by decide) ?_
    exact rc_zret hx hb hr hlk (by first | exact Or.inl rfl | exact Or.inr rfl) (by first | exact bo_p ⟨bo_lt c1, bo_lt c2, bo_lt c3, bo_lt c4⟩ | exact bo_n (fun q => bo_nle c1 q.1) | exact bo_n (fun q => bo_nle c2 q.2.1) | exact bo_n (fun q => bo_nle c3 q.2.2.1) | exact bo_n (fun q => bo_nle c4 q.2.2.2)) dX5_isIn_69
  · skip
    refine lv_aload_n hx hb dX5_isIn_21 rfl (lv_at hl 1 rfl) ?_
    refine mo_get hF hK hM 4 (by decide) wd_f_X5_19 rfl dX5_isIn_22 ?_
    refine lv_iload_n hx hb dX5_isIn_25 rfl (lv_at hl 2 rfl) ?_
    refine mo_ald hF hK hM 4 w (by decide) rfl (by assumption) dX5_isIn_26 ?_
    refine lv_iload hx hb dX5_isIn_27 (lv_at hl 0 rfl) ?_
    refine lv_iload_n hx hb dX5_isIn_29 rfl (lv_at hl 4 rfl) ?_
    refine lv_imul hx hb dX5_isIn_30 ?_
    refine lv_icmp_lt (tgt := 68) hx hb dX5_isIn_31 (by decide) (fun c2 => ?_) (fun c2 => ?_)
    · skip
      refine lv_iconst (v := 0) hx hb dX5_isIn_68 (by decide) ?_
      exact rc_zret hx hb hr hlk (by first | exact Or.inl rfl | exact Or.inr rfl) (by first | exact bo_p ⟨bo_lt c1, bo_lt c2, bo_lt c3, bo_lt c4⟩ | exact bo_n (fun q => bo_nle c1 q.1) | exact bo_n (fun q => bo_nle c2 q.2.1) | exact bo_n (fun q => bo_nle c3 q.2.2.1) | exact bo_n (fun q => bo_nle c4 q.2.2.2)) dX5_isIn_69
    · skip
      refine lv_aload_n hx hb dX5_isIn_34 rfl (lv_at hl 1 rfl) ?_
      refine mo_get hF hK hM 3 (by decide) wd_f_X5_16 rfl dX5_isIn_35 ?_
      refine lv_iload_n hx hb dX5_isIn_38 rfl (lv_at hl 2 rfl) ?_
      refine mo_ald hF hK hM 3 w (by decide) rfl (by assumption) dX5_isIn_39 ?_
      refine lv_iload hx hb dX5_isIn_40 (lv_at hl 0 rfl) ?_
      refine lv_iload hx hb dX5_isIn_42 (lv_at hl 5 rfl) ?_
      refine lv_iconst (v := 1) hx hb dX5_isIn_44 (by decide) ?_
      refine lv_iadd hx hb dX5_isIn_45 ?_
      refine lv_imul hx hb dX5_isIn_46 ?_
      refine lv_icmp_gt (tgt := 68) hx hb dX5_isIn_47 (by decide) (fun c3 => ?_) (fun c3 => ?_)
      · skip
        refine lv_iconst (v := 0) hx hb dX5_isIn_68 (by decide) ?_
        exact rc_zret hx hb hr hlk (by first | exact Or.inl rfl | exact Or.inr rfl) (by first | exact bo_p ⟨bo_lt c1, bo_lt c2, bo_lt c3, bo_lt c4⟩ | exact bo_n (fun q => bo_nle c1 q.1) | exact bo_n (fun q => bo_nle c2 q.2.1) | exact bo_n (fun q => bo_nle c3 q.2.2.1) | exact bo_n (fun q => bo_nle c4 q.2.2.2)) dX5_isIn_69
      · skip
        refine lv_aload_n hx hb dX5_isIn_50 rfl (lv_at hl 1 rfl) ?_
        refine mo_get hF hK hM 5 (by decide) wd_f_X5_22 rfl dX5_isIn_51 ?_
        refine lv_iload_n hx hb dX5_isIn_54 rfl (lv_at hl 2 rfl) ?_
        refine mo_ald hF hK hM 5 w (by decide) rfl (by assumption) dX5_isIn_55 ?_
        refine lv_iload hx hb dX5_isIn_56 (lv_at hl 0 rfl) ?_
        refine lv_iload hx hb dX5_isIn_58 (lv_at hl 5 rfl) ?_
        refine lv_imul hx hb dX5_isIn_60 ?_
        refine lv_icmp_lt (tgt := 68) hx hb dX5_isIn_61 (by decide) (fun c4 => ?_) (fun c4 => ?_)
        · skip
          refine lv_iconst (v := 0) hx hb dX5_isIn_68 (by decide) ?_
          exact rc_zret hx hb hr hlk (by first | exact Or.inl rfl | exact Or.inr rfl) (by first | exact bo_p ⟨bo_lt c1, bo_lt c2, bo_lt c3, bo_lt c4⟩ | exact bo_n (fun q => bo_nle c1 q.1) | exact bo_n (fun q => bo_nle c2 q.2.1) | exact bo_n (fun q => bo_nle c3 q.2.2.1) | exact bo_n (fun q => bo_nle c4 q.2.2.2)) dX5_isIn_69
        · skip
          refine lv_iconst (v := 1) hx hb dX5_isIn_64 (by decide) ?_
          refine lv_goto (tgt := 69) hx hb dX5_isIn_65 (by decide) ?_
          exact rc_zret hx hb hr hlk (by first | exact Or.inl rfl | exact Or.inr rfl) (by first | exact bo_p ⟨bo_lt c1, bo_lt c2, bo_lt c3, bo_lt c4⟩ | exact bo_n (fun q => bo_nle c1 q.1) | exact bo_n (fun q => bo_nle c2 q.2.1) | exact bo_n (fun q => bo_nle c3 q.2.2.1) | exact bo_n (fun q => bo_nle c4 q.2.2.2)) dX5_isIn_69
theorem ke_X5_far : wl_V RX5 yX5_far cX5_far 6 (some .int) 3 := ⟨wd_c_X5_far, wd_i_X5_far, wd_s_X5_far, wd_n_X5, by decide, by decide +kernel⟩
set_option maxHeartbeats 4000000 in
set_option maxRecDepth 100000 in
theorem m_X5_far (l : Launch) (D : va_G) (cI : ClassId) (o : Nat) (a : Nat → Nat) (mm : q_Mem) (c1 : Nat) (x y : Int32) (hc1 : c1 < 3) : rc_C l yX5_far cX5_far 6 (some .int) 0 0 [.ref o, .int (nI c1), .int x, .int y] (mo_B D cI o a mm) (fun r => r = sp_far mm c1 x y) := by
  refine rc_of (by decide) (Nat.le_of_ble_eq_true rfl) ?_
  intro p e s m args below meth c hx hb hr hF hlk hB ls hl
  obtain ⟨hM, hK⟩ := hB
  have hl : lv_has ls 6 [(0, .ref o), (1, .int (nI c1)), (2, .int x), (3, .int y)] := hl
  have hf : (0 : Nat) ≤ 0 ∧ (0 : Nat) ≤ 0 := ⟨Nat.le_refl 0, Nat.le_refl 0⟩
  refine bo_cut (ls := ls) (tgt := 29) (E := if x < mm 15 c1 then mm 15 c1 - x else x - mm 15 c1) (rest := []) (fun vx evx => ?_) (fun J29 => ?_)
  · skip
    refine lv_istore (lv' := [(4, .int vx), (0, .ref o), (1, .int (nI c1)), (2, .int x), (3, .int y)]) hx hb dX5_far_29 hl (by decide) rfl (fun ls hl => ?_)
    refine bo_cut (ls := ls) (tgt := 60) (E := if y < mm 16 c1 then mm 16 c1 - y else y - mm 16 c1) (rest := []) (fun vy evy => ?_) (fun J60 => ?_)
    · skip
      refine lv_istore (lv' := [(5, .int vy), (4, .int vx), (0, .ref o), (1, .int (nI c1)), (2, .int x), (3, .int y)]) hx hb dX5_far_60 hl (by decide) rfl (fun ls hl => ?_)
      refine lv_iload hx hb dX5_far_62 (lv_at hl 1 rfl) ?_
      refine lv_iload hx hb dX5_far_64 (lv_at hl 0 rfl) ?_
      refine lv_iadd hx hb dX5_far_66 ?_
      exact rc_iret hx hb hr hlk (by rw [evx, evy]; rfl) dX5_far_67
    · skip
      refine lv_aload_n hx hb dX5_far_31 rfl (lv_at hl 1 rfl) ?_
      refine mo_get hF hK hM 16 (by decide) wd_f_X5_52 rfl dX5_far_32 ?_
      refine lv_iload_n hx hb dX5_far_35 rfl (lv_at hl 2 rfl) ?_
      refine mo_ald hF hK hM 16 c1 (by decide) rfl (by exact hc1) dX5_far_36 ?_
      refine lv_iload_n hx hb dX5_far_37 rfl (lv_at hl 4 rfl) ?_
      refine lv_icmp_le (tgt := 52) hx hb dX5_far_38 (by decide) (fun d2 => ?_) (fun d2 => ?_)
      · skip
        refine lv_iload_n hx hb dX5_far_52 rfl (lv_at hl 4 rfl) ?_
        refine lv_aload_n hx hb dX5_far_53 rfl (lv_at hl 1 rfl) ?_
        refine mo_get hF hK hM 16 (by decide) wd_f_X5_52 rfl dX5_far_54 ?_
        refine lv_iload_n hx hb dX5_far_57 rfl (lv_at hl 2 rfl) ?_
        refine mo_ald hF hK hM 16 c1 (by decide) rfl (by exact hc1) dX5_far_58 ?_
        refine lv_isub hx hb dX5_far_59 ?_
        exact J60 _ (by first | exact (if_pos (bo_le d2)).symm | exact (if_neg (bo_nlt d2)).symm)
      · skip
        refine lv_aload_n hx hb dX5_far_41 rfl (lv_at hl 1 rfl) ?_
        refine mo_get hF hK hM 16 (by decide) wd_f_X5_52 rfl dX5_far_42 ?_
        refine lv_iload_n hx hb dX5_far_45 rfl (lv_at hl 2 rfl) ?_
        refine mo_ald hF hK hM 16 c1 (by decide) rfl (by exact hc1) dX5_far_46 ?_
        refine lv_iload_n hx hb dX5_far_47 rfl (lv_at hl 4 rfl) ?_
        refine lv_isub hx hb dX5_far_48 ?_
        refine lv_goto (tgt := 60) hx hb dX5_far_49 (by decide) ?_
        exact J60 _ (by first | exact (if_pos (bo_le d2)).symm | exact (if_neg (bo_nlt d2)).symm)
  · skip
    refine lv_aload_n hx hb dX5_far_0 rfl (lv_at hl 0 rfl) ?_
    refine mo_get hF hK hM 15 (by decide) wd_f_X5_49 rfl dX5_far_1 ?_
    refine lv_iload_n hx hb dX5_far_4 rfl (lv_at hl 1 rfl) ?_
    refine mo_ald hF hK hM 15 c1 (by decide) rfl (by exact hc1) dX5_far_5 ?_
    refine lv_iload_n hx hb dX5_far_6 rfl (lv_at hl 2 rfl) ?_
    refine lv_icmp_le (tgt := 21) hx hb dX5_far_7 (by decide) (fun d1 => ?_) (fun d1 => ?_)
    · skip
      refine lv_iload_n hx hb dX5_far_21 rfl (lv_at hl 2 rfl) ?_
      refine lv_aload_n hx hb dX5_far_22 rfl (lv_at hl 0 rfl) ?_
      refine mo_get hF hK hM 15 (by decide) wd_f_X5_49 rfl dX5_far_23 ?_
      refine lv_iload_n hx hb dX5_far_26 rfl (lv_at hl 1 rfl) ?_
      refine mo_ald hF hK hM 15 c1 (by decide) rfl (by exact hc1) dX5_far_27 ?_
      refine lv_isub hx hb dX5_far_28 ?_
      exact J29 _ (by first | exact (if_pos (bo_le d1)).symm | exact (if_neg (bo_nlt d1)).symm)
    · skip
      refine lv_aload_n hx hb dX5_far_10 rfl (lv_at hl 0 rfl) ?_
      refine mo_get hF hK hM 15 (by decide) wd_f_X5_49 rfl dX5_far_11 ?_
      refine lv_iload_n hx hb dX5_far_14 rfl (lv_at hl 1 rfl) ?_
      refine mo_ald hF hK hM 15 c1 (by decide) rfl (by exact hc1) dX5_far_15 ?_
      refine lv_iload_n hx hb dX5_far_16 rfl (lv_at hl 2 rfl) ?_
      refine lv_isub hx hb dX5_far_17 ?_
      refine lv_goto (tgt := 29) hx hb dX5_far_18 (by decide) ?_
      exact J29 _ (by first | exact (if_pos (bo_le d1)).symm | exact (if_neg (bo_nlt d1)).symm)
theorem ke_X5_goes : wl_V RX5 yX5_goes cX5_goes 5 (some .int) 3 := ⟨wd_c_X5_goes, wd_i_X5_goes, wd_s_X5_goes, wd_n_X5, by decide, by decide +kernel⟩
set_option maxHeartbeats 4000000 in
set_option maxRecDepth 100000 in
theorem m_X5_goes (l : Launch) (D : va_G) (cI : ClassId) (o : Nat) (a : Nat → Nat) (mm : q_Mem) (hMD : mo_D o a) (c1 : Nat) (x y : Int32) (hc1 : c1 < 3) : mo_Ci l yX5_goes cX5_goes 5 (some .int) 1 25 D cI o a mm [.int (nI c1), .int x, .int y] (fun r m1 => r = sp_far mm c1 x y ∧ m1 = sp_goes mm c1 x y) := by
  refine mo_ofQ (by decide) (Nat.le_of_ble_eq_true rfl) ?_
  intro p e s m args below meth c hx hb hr hF hlk hM hK hS ls hl
  have hA : ∀ q, mo_R o a q → mo_R o a q := fun _ h => h
  have hl : lv_has ls 5 [(0, .ref o), (1, .int (nI c1)), (2, .int x), (3, .int y)] := hl
  have hf : (0 : Nat) ≤ 0 ∧ (0 : Nat) ≤ 0 := ⟨Nat.le_refl 0, Nat.le_refl 0⟩
  refine lv_aload_n hx hb dX5_goes_0 rfl (lv_at hl 0 rfl) ?_
  refine lv_iload_n hx hb dX5_goes_1 rfl (lv_at hl 1 rfl) ?_
  refine lv_iload_n hx hb dX5_goes_2 rfl (lv_at hl 2 rfl) ?_
  refine lv_iload_n hx hb dX5_goes_3 rfl (lv_at hl 3 rfl) ?_
  refine rc_V (fr := 0) (lo := 0) (As := [.int (nI c1), .int x, .int y]) (rest := []) hF (m_X5_far l D cI o a mm c1 x y hc1) ke_X5_far wd_l_X5_137 (by decide) mo_blind (fun U hU hv => ⟨by rw [hU]; exact hM, hK.moved hv⟩) (mo_recv hK hM) rfl hl.1 rfl (Nat.le_of_ble_eq_true rfl) dX5_goes_4 hf (fun r1 hr1 => ?_)
  replace hr1 : r1 = sp_far mm c1 x y := hr1
  subst hr1
  refine lv_istore (lv' := [(4, .int (sp_far mm c1 x y)), (0, .ref o), (1, .int (nI c1)), (2, .int x), (3, .int y)]) hx hb dX5_goes_7 hl (by decide) rfl (fun ls hl => ?_)
  refine lv_aload_n hx hb dX5_goes_9 rfl (lv_at hl 1 rfl) ?_
  refine mo_get hF hK hM 15 (by decide) wd_f_X5_49 rfl dX5_goes_10 ?_
  refine lv_iload_n hx hb dX5_goes_13 rfl (lv_at hl 2 rfl) ?_
  refine lv_iload_n hx hb dX5_goes_14 rfl (lv_at hl 3 rfl) ?_
  refine mo_ast (mm := mm) hF hK hM hMD hS hA 15 c1 (by decide) rfl (by exact hc1) dX5_goes_15 (fun H locs hM hS => ?_)
  refine lv_aload_n hx hb dX5_goes_16 rfl (lv_at hl 1 rfl) ?_
  refine mo_get hF hK hM 16 (by decide) wd_f_X5_52 rfl dX5_goes_17 ?_
  refine lv_iload_n hx hb dX5_goes_20 rfl (lv_at hl 2 rfl) ?_
  refine lv_iload_n hx hb dX5_goes_21 rfl (lv_at hl 4 rfl) ?_
  refine mo_ast (mm := (up2 mm 15 c1 x)) hF hK hM hMD hS hA 16 c1 (by decide) rfl (by exact hc1) dX5_goes_22 (fun H locs hM hS => ?_)
  refine lv_iload hx hb dX5_goes_23 (lv_at hl 0 rfl) ?_
  exact mo_iret hx hb hr hlk hK hM hS (⟨rfl, rfl⟩) dX5_goes_25
theorem ke_X5_drive : wl_V RX5 yX5_drive cX5_drive 4 (some .int) 3 := ⟨wd_c_X5_drive, wd_i_X5_drive, wd_s_X5_drive, wd_n_X5, by decide, by decide +kernel⟩
set_option maxHeartbeats 4000000 in
set_option maxRecDepth 100000 in
theorem m_X5_drive (l : Launch) (D : va_G) (cI : ClassId) (o : Nat) (a : Nat → Nat) (mm : q_Mem) (hMD : mo_D o a) (x y z : Int32)  : mo_Ci l yX5_drive cX5_drive 4 (some .int) 2 49 D cI o a mm [.int x, .int y, .int z] (fun r m1 => (r, m1) = sp_drive mm x y z) := by
  refine mo_ofQ (by decide) (Nat.le_of_ble_eq_true rfl) ?_
  intro p e s m args below meth c hx hb hr hF hlk hM hK hS ls hl
  have hA : ∀ q, mo_R o a q → mo_R o a q := fun _ h => h
  have hl : lv_has ls 4 [(0, .ref o), (1, .int x), (2, .int y), (3, .int z)] := hl
  have hf : (0 : Nat) ≤ 0 ∧ (0 : Nat) ≤ 0 := ⟨Nat.le_refl 0, Nat.le_refl 0⟩
  refine lv_aload_n hx hb dX5_drive_0 rfl (lv_at hl 0 rfl) ?_
  refine bo_cut (ls := ls) (tgt := 21) (E := if sp_car x ∧ sp_cr y z then 1 else 0) (rest := [.ref o]) (fun va eva => ?_) (fun J21 => ?_)
  · skip
    refine mo_iV (fr := 0) (lo := 0) (As := [.int va]) (rest := []) hF (m_X5_asks l D cI o a mm hMD va (sp_car x ∧ sp_cr y z) eva) ke_X5_asks wd_l_X5_83 (by decide) hK hM hS hA rfl hl.1 rfl (Nat.le_of_ble_eq_true rfl) dX5_drive_21 hf (fun r2 mm3 H locs hr2 hM hS _ _ => ?_)
    obtain ⟨hr2, hmm3⟩ := hr2
    subst hmm3
    have hbr2 := hr2.trans eva
    refine bo_eq (tgt := 37) hbr2 hx hb dX5_drive_24 (by decide) (fun cP => ?_) (fun cP => ?_)
    · skip
      rw [if_neg cP] at hM
      refine lv_iconst (v := 0) hx hb dX5_drive_37 (by decide) ?_
      exact mo_iret hx hb hr hlk hK hM hS (by first | (rw [sp_drive, if_neg cP]; done) | (rw [sp_drive, if_pos cP, nt_c (by omega)]; done)) dX5_drive_38
    · skip
      rw [if_pos cP] at hM
      obtain ⟨ci, hci, rfl⟩ := nt_car cP.1
      refine lv_aload_n hx hb dX5_drive_27 rfl (lv_at hl 0 rfl) ?_
      refine lv_iload_n hx hb dX5_drive_28 rfl (lv_at hl 1 rfl) ?_
      refine lv_iload_n hx hb dX5_drive_29 rfl (lv_at hl 2 rfl) ?_
      refine lv_iload_n hx hb dX5_drive_30 rfl (lv_at hl 3 rfl) ?_
      refine mo_iV (fr := 1) (lo := 25) (As := [.int (nI ci), .int y, .int z]) (rest := []) hF (m_X5_goes l D cI o a (up2 mm 19 0 0) hMD ci y z hci) ke_X5_goes wd_l_X5_143 (by decide) hK hM hS hA rfl hl.1 rfl (Nat.le_of_ble_eq_true rfl) dX5_drive_31 hf (fun r4 mm5 H locs hr4 hM hS _ _ => ?_)
      obtain ⟨hr4, hmm5⟩ := hr4
      subst hmm5
      replace hr4 : r4 = sp_far mm ci y z := hr4
      subst hr4
      refine lv_goto (tgt := 38) hx hb dX5_drive_34 (by decide) ?_
      exact mo_iret hx hb hr hlk hK hM hS (by first | (rw [sp_drive, if_neg cP]; done) | (rw [sp_drive, if_pos cP, nt_c (by omega)]; done)) dX5_drive_38
  · skip
    refine lv_iload_n hx hb dX5_drive_1 rfl (lv_at hl 1 rfl) ?_
    refine rc_S (fr := 0) (lo := 0) (As := [.int x]) (rest := [.ref o]) hF (m_X5_isCar l x) ke_X5_isCar wd_l_X5_140 (by decide) bl_true (fun _ _ _ => trivial) rfl hl.1 rfl (Nat.le_of_ble_eq_true rfl) dX5_drive_2 hf (fun r6 hr6 => ?_)
    refine bo_eq (tgt := 20) hr6 hx hb dX5_drive_5 (by decide) (fun c1 => ?_) (fun c1 => ?_)
    · skip
      refine lv_iconst (v := 0) hx hb dX5_drive_20 (by decide) ?_
      exact J21 _ (by first | exact bo_y c1 c2 | exact bo_n1 c1 | exact bo_n2 c2)
    · skip
      refine lv_iload_n hx hb dX5_drive_8 rfl (lv_at hl 2 rfl) ?_
      refine lv_iload_n hx hb dX5_drive_9 rfl (lv_at hl 3 rfl) ?_
      refine rc_S (fr := 1) (lo := 22) (As := [.int y, .int z]) (rest := [.ref o]) hF (m_X5_isCrossing l y z) ke_X5_isCrossing wd_l_X5_79 (by decide) bl_true (fun _ _ _ => trivial) rfl hl.1 rfl (Nat.le_of_ble_eq_true rfl) dX5_drive_10 hf (fun r7 hr7 => ?_)
      refine bo_eq (tgt := 20) hr7 hx hb dX5_drive_13 (by decide) (fun c2 => ?_) (fun c2 => ?_)
      · skip
        refine lv_iconst (v := 0) hx hb dX5_drive_20 (by decide) ?_
        exact J21 _ (by first | exact bo_y c1 c2 | exact bo_n1 c1 | exact bo_n2 c2)
      · skip
        refine lv_iconst (v := 1) hx hb dX5_drive_16 (by decide) ?_
        refine lv_goto (tgt := 21) hx hb dX5_drive_17 (by decide) ?_
        exact J21 _ (by first | exact bo_y c1 c2 | exact bo_n1 c1 | exact bo_n2 c2)
theorem ke_X5_carAt : wl_V RX5 yX5_carAt cX5_carAt 2 (some .int) 1 := ⟨wd_c_X5_carAt, wd_i_X5_carAt, wd_s_X5_carAt, wd_n_X5, by decide, by decide +kernel⟩
set_option maxHeartbeats 4000000 in
set_option maxRecDepth 100000 in
theorem m_X5_carAt (l : Launch) (D : va_G) (cI : ClassId) (o : Nat) (a : Nat → Nat) (mm : q_Mem) (hMD : mo_D o a) (x : Int32)  : mo_Ci l yX5_carAt cX5_carAt 2 (some .int) 1 21 D cI o a mm [.int x] (fun r m1 => (r, m1) = sp_cat mm x) := by
  refine mo_ofQ (by decide) (Nat.le_of_ble_eq_true rfl) ?_
  intro p e s m args below meth c hx hb hr hF hlk hM hK hS ls hl
  have hA : ∀ q, mo_R o a q → mo_R o a q := fun _ h => h
  have hl : lv_has ls 2 [(0, .ref o), (1, .int x)] := hl
  have hf : (0 : Nat) ≤ 0 ∧ (0 : Nat) ≤ 0 := ⟨Nat.le_refl 0, Nat.le_refl 0⟩
  refine lv_aload_n hx hb dX5_carAt_0 rfl (lv_at hl 0 rfl) ?_
  refine lv_iload_n hx hb dX5_carAt_1 rfl (lv_at hl 1 rfl) ?_
  refine rc_S (fr := 0) (lo := 0) (As := [.int x]) (rest := [.ref o]) hF (m_X5_isCar l x) ke_X5_isCar wd_l_X5_140 (by decide) bl_true (fun _ _ _ => trivial) rfl hl.1 rfl (Nat.le_of_ble_eq_true rfl) dX5_carAt_2 hf (fun r1 hr1 => ?_)
  refine mo_iV (fr := 0) (lo := 0) (As := [.int r1]) (rest := []) hF (m_X5_asks l D cI o a mm hMD r1 (sp_car x) hr1) ke_X5_asks wd_l_X5_83 (by decide) hK hM hS hA rfl hl.1 rfl (Nat.le_of_ble_eq_true rfl) dX5_carAt_5 hf (fun r2 mm3 H locs hr2 hM hS _ _ => ?_)
  obtain ⟨hr2, hmm3⟩ := hr2
  subst hmm3
  have hbr2 := hr2.trans hr1
  refine bo_eq (tgt := 30) hbr2 hx hb dX5_carAt_8 (by decide) (fun cP => ?_) (fun cP => ?_)
  · skip
    rw [if_neg cP] at hM
    refine lv_iconst (v := 0) hx hb dX5_carAt_30 (by decide) ?_
    exact mo_iret hx hb hr hlk hK hM hS (by first | (rw [sp_cat, if_neg cP]; done) | (rw [sp_cat, if_pos cP, nt_c (by omega)]; done)) dX5_carAt_31
  · skip
    rw [if_pos cP] at hM
    obtain ⟨ci, hci, rfl⟩ := nt_car cP
    refine lv_bipush (v := 100) hx hb dX5_carAt_11 (by decide) ?_
    refine lv_aload_n hx hb dX5_carAt_13 rfl (lv_at hl 0 rfl) ?_
    refine mo_get hF hK hM 15 (by decide) wd_f_X5_49 rfl dX5_carAt_14 ?_
    refine lv_iload_n hx hb dX5_carAt_17 rfl (lv_at hl 1 rfl) ?_
    refine mo_ald hF hK hM 15 ci (by decide) rfl (by exact hci) dX5_carAt_18 ?_
    refine bo_to (v := (mm 15 ci)) (up2_c (by decide)) ?_
    refine lv_imul hx hb dX5_carAt_19 ?_
    refine lv_aload_n hx hb dX5_carAt_20 rfl (lv_at hl 0 rfl) ?_
    refine mo_get hF hK hM 16 (by decide) wd_f_X5_52 rfl dX5_carAt_21 ?_
    refine lv_iload_n hx hb dX5_carAt_24 rfl (lv_at hl 1 rfl) ?_
    refine mo_ald hF hK hM 16 ci (by decide) rfl (by exact hci) dX5_carAt_25 ?_
    refine bo_to (v := (mm 16 ci)) (up2_c (by decide)) ?_
    refine lv_iadd hx hb dX5_carAt_26 ?_
    refine lv_goto (tgt := 31) hx hb dX5_carAt_27 (by decide) ?_
    exact mo_iret hx hb hr hlk hK hM hS (by first | (rw [sp_cat, if_neg cP]; done) | (rw [sp_cat, if_pos cP, nt_c (by omega)]; done)) dX5_carAt_31
theorem ke_X5_placeOf : wl_V RX5 yX5_placeOf cX5_placeOf 5 (some .int) 2 := ⟨wd_c_X5_placeOf, wd_i_X5_placeOf, wd_s_X5_placeOf, wd_n_X5, by decide, by decide +kernel⟩
set_option maxHeartbeats 4000000 in
set_option maxRecDepth 100000 in
theorem m_X5_placeOf (l : Launch) (D : va_G) (cI : ClassId) (o : Nat) (a : Nat → Nat) (mm : q_Mem) (hMD : mo_D o a) (x y : Int32) (hI : Inv mm) : mo_Ci l yX5_placeOf cX5_placeOf 5 (some .int) 1 21 D cI o a mm [.int x, .int y] (fun r m1 => if sp_isv mm x y then r = nI (sp_at mm x y) ∧ sp_at mm x y < sp_K mm ∧ m1 = up2 mm 19 0 0 else r = -1 ∧ m1 = up2 mm 19 0 1) := by
  refine mo_ofQ (by decide) (Nat.le_of_ble_eq_true rfl) ?_
  intro p e s m args below meth c hx hb hr hF hlk hM hK hS ls hl
  have hA : ∀ q, mo_R o a q → mo_R o a q := fun _ h => h
  have hl : lv_has ls 5 [(0, .ref o), (1, .int x), (2, .int y)] := hl
  have hf : (0 : Nat) ≤ 0 ∧ (0 : Nat) ≤ 0 := ⟨Nat.le_refl 0, Nat.le_refl 0⟩
  refine lv_aload_n hx hb dX5_placeOf_0 rfl (lv_at hl 0 rfl) ?_
  refine bo_cut (ls := ls) (tgt := 28) (E := if sp_isv mm x y then 1 else 0) (rest := [.ref o]) (fun va eva => ?_) (fun J28 => ?_)
  · skip
    refine mo_iV (fr := 0) (lo := 0) (As := [.int va]) (rest := []) hF (m_X5_asks l D cI o a mm hMD va (sp_isv mm x y) eva) ke_X5_asks wd_l_X5_83 (by decide) hK hM hS hA rfl hl.1 rfl (Nat.le_of_ble_eq_true rfl) dX5_placeOf_28 hf (fun r2 mm3 H locs hr2 hM hS _ _ => ?_)
    obtain ⟨hr2, hmm3⟩ := hr2
    subst hmm3
    have hbr2 := hr2.trans eva
    refine bo_ne (tgt := 36) hbr2 hx hb dX5_placeOf_31 (by decide) (fun cP => ?_) (fun cP => ?_)
    · skip
      rw [if_pos cP] at hM
      have hW40 := hI.W40
      have hKK := hI.K512
      obtain ⟨wi, hwi, rfl⟩ := nt_wy hI cP.1
      obtain ⟨n, hn, hn1, hn2⟩ := hI.N hwi
      have hcw : (nI wi).toNatClampNeg = wi := nt_c (by omega)
      have hPv : 0 ≤ y ∧ y < nI (n + 1) := by rw [← hn2]; have q := cP.2; rw [hcw] at q; exact q
      obtain ⟨vi, hvi, rfl⟩ := nt_lt (by omega) hPv
      have hAt : sp_at mm (nI wi) (nI vi) = sp_back mm (n - vi) (sp_L mm wi) := by rw [sp_at, hcw, hn2, nt_c (by omega), nt_c (by omega), Nat.add_sub_cancel]
      have hBk := hI.back (hI.LK hwi) hn1 (by omega)
      have hL := hI.L hwi
      refine lv_aload_n hx hb dX5_placeOf_36 rfl (lv_at hl 0 rfl) ?_
      refine mo_get hF hK hM 8 (by decide) wd_f_X5_31 rfl dX5_placeOf_37 ?_
      refine lv_iload_n hx hb dX5_placeOf_40 rfl (lv_at hl 1 rfl) ?_
      refine mo_ald hF hK hM 8 wi (by decide) rfl (show wi < 40 by omega) dX5_placeOf_41 ?_
      refine bo_to (v := (mm 8 wi)) (up2_c (by decide)) ?_
      refine bo_to (v := (nI (sp_L mm wi))) (hL) ?_
      refine lv_istore_n (lv' := [(3, .int (nI (sp_L mm wi))), (0, .ref o), (1, .int (nI wi)), (2, .int (nI vi))]) hx hb dX5_placeOf_42 rfl hl (by decide) rfl (fun ls hl => ?_)
      refine lv_aload_n hx hb dX5_placeOf_43 rfl (lv_at hl 1 rfl) ?_
      refine mo_get hF hK hM 7 (by decide) wd_f_X5_28 rfl dX5_placeOf_44 ?_
      refine lv_iload_n hx hb dX5_placeOf_47 rfl (lv_at hl 2 rfl) ?_
      refine mo_ald hF hK hM 7 wi (by decide) rfl (show wi < 40 by omega) dX5_placeOf_48 ?_
      refine bo_to (v := (mm 7 wi)) (up2_c (by decide)) ?_
      refine bo_to (v := (nI (n + 1))) (hn2) ?_
      refine lv_iconst (v := 1) hx hb dX5_placeOf_49 (by decide) ?_
      refine lv_isub hx hb dX5_placeOf_50 ?_
      refine bo_to (v := (nI n)) (nI_pred n) ?_
      refine lv_istore (lv' := [(4, .int (nI n)), (3, .int (nI (sp_L mm wi))), (0, .ref o), (1, .int (nI wi)), (2, .int (nI vi))]) hx hb dX5_placeOf_51 hl (by decide) rfl (fun ls hl => ?_)
      refine bo_loop (σ := Nat) (μ := fun (t : Nat) => n - t) (I := fun (t : Nat) (H : Heap) (locs : List Loc) (ls : Array Slot) => mo_H D cI o a (up2 mm 19 0 0) H ∧ va_S (mo_R o a) s.heap H locs ∧ lv_has ls 5 [(3, .int (nI (sp_back mm t (sp_L mm wi)))), (4, .int (nI (n - t))), (0, .ref o), (1, .int (nI wi)), (2, .int (nI vi))] ∧ (t ≤ n - vi)) (0) ⟨hM, hS, lv_sub hl [1, 0, 2, 3, 4] rfl, Nat.zero_le _⟩ ?_
      intro x53 H locs ls hI53 ih53
      obtain ⟨t, ex53⟩ : ∃ z, z = x53 := ⟨_, rfl⟩
      subst ex53
      obtain ⟨hM, hS, hl, hp⟩ := hI53
      obtain ⟨b1, b2, b3⟩ := hBk t (by omega)
      refine lv_iload hx hb dX5_placeOf_53 (lv_at hl 1 rfl) ?_
      refine lv_iload_n hx hb dX5_placeOf_55 rfl (lv_at hl 4 rfl) ?_
      refine lv_icmp_le (tgt := 72) hx hb dX5_placeOf_56 (by decide) (fun c4 => ?_) (fun c4 => ?_)
      · skip
        refine lv_iload_n hx hb dX5_placeOf_72 rfl (lv_at hl 0 rfl) ?_
        exact mo_iret hx hb hr hlk hK hM hS (by rw [if_pos cP, hAt]; have : ¬ vi < n - t := fun q => (nI_nle2 q (by omega)) c4; have e1 : t = n - vi := (by omega); subst e1; exact ⟨rfl, (hBk (n - vi) (by omega)).1, rfl⟩) dX5_placeOf_73
      · skip
        refine lv_aload_n hx hb dX5_placeOf_59 rfl (lv_at hl 2 rfl) ?_
        refine mo_get hF hK hM 12 (by decide) wd_f_X5_40 rfl dX5_placeOf_60 ?_
        refine lv_iload_n hx hb dX5_placeOf_63 rfl (lv_at hl 0 rfl) ?_
        refine mo_ald hF hK hM 12 (sp_back mm t (sp_L mm wi)) (by decide) rfl (show sp_back mm t (sp_L mm wi) < 4200 by omega) dX5_placeOf_64 ?_
        refine bo_to (v := (nI (sp_back mm (t + 1) (sp_L mm wi)))) (b3 (by have : vi < n - t := Nat.lt_of_not_le (fun q => c4 (nI_le q (by omega))); omega)) ?_
        refine lv_istore_n (lv' := [(3, .int (nI (sp_back mm (t + 1) (sp_L mm wi)))), (4, .int (nI (n - t))), (0, .ref o), (1, .int (nI wi)), (2, .int (nI vi))]) hx hb dX5_placeOf_65 rfl hl (by decide) rfl (fun ls hl => ?_)
        refine lv_iinc (v := (nI (n - (t + 1)))) (lv' := [(4, .int (nI (n - (t + 1)))), (3, .int (nI (sp_back mm (t + 1) (sp_L mm wi)))), (0, .ref o), (1, .int (nI wi)), (2, .int (nI vi))]) hx hb dX5_placeOf_66 hl (k := 1) rfl (by have : vi < n - t := Nat.lt_of_not_le (fun q => c4 (nI_le q (by omega))); exact nI_dec (by omega)) (by decide) rfl (fun ls hl => ?_)
        refine lv_goto (tgt := 53) hx hb dX5_placeOf_69 (by decide) ?_
        exact ih53 (t + 1) _ _ _ (by have : vi < n - t := Nat.lt_of_not_le (fun q => c4 (nI_le q (by omega))); show n - (t + 1) < n - t; omega) ⟨hM, hS, lv_sub hl [1, 0, 2, 3, 4] rfl, by have : vi < n - t := Nat.lt_of_not_le (fun q => c4 (nI_le q (by omega))); omega⟩
    · skip
      rw [if_neg cP] at hM
      refine lv_iconst (v := (-1)) hx hb dX5_placeOf_34 (by decide) ?_
      exact mo_iret hx hb hr hlk hK hM hS (by rw [if_neg cP]; exact ⟨rfl, rfl⟩) dX5_placeOf_35
  · skip
    refine lv_aload_n hx hb dX5_placeOf_1 rfl (lv_at hl 0 rfl) ?_
    refine lv_iload_n hx hb dX5_placeOf_2 rfl (lv_at hl 1 rfl) ?_
    refine rc_V (fr := 0) (lo := 0) (As := [.int x]) (rest := [.ref o]) hF (m_X5_isWay l D cI o a mm x) ke_X5_isWay wd_l_X5_95 (by decide) mo_blind (fun U hU hv => ⟨by rw [hU]; exact hM, hK.moved hv⟩) (mo_recv hK hM) rfl hl.1 rfl (Nat.le_of_ble_eq_true rfl) dX5_placeOf_3 hf (fun r4 hr4 => ?_)
    refine bo_eq (tgt := 27) hr4 hx hb dX5_placeOf_6 (by decide) (fun c1 => ?_) (fun c1 => ?_)
    · skip
      refine lv_iconst (v := 0) hx hb dX5_placeOf_27 (by decide) ?_
      exact J28 _ (by first | exact bo_p ⟨c1, bo_lt c2, bo_le c3⟩ | exact bo_n (fun q => c1 q.1) | exact bo_n (fun q => bo_nle c2 q.2.1) | exact bo_n (fun q => bo_nlt c3 q.2.2))
    · skip
      have hW40 := hI.W40
      obtain ⟨wi, hwi, ex⟩ := nt_wy hI c1
      have hcl : x.toNatClampNeg = wi := by rw [ex]; exact nt_c (by omega)
      refine lv_iload_n hx hb dX5_placeOf_9 rfl (lv_at hl 2 rfl) ?_
      refine lv_if_lt (tgt := 27) hx hb dX5_placeOf_10 (by decide) (fun c2 => ?_) (fun c2 => ?_)
      · skip
        refine lv_iconst (v := 0) hx hb dX5_placeOf_27 (by decide) ?_
        exact J28 _ (by first | exact bo_p ⟨c1, bo_lt c2, bo_le c3⟩ | exact bo_n (fun q => c1 q.1) | exact bo_n (fun q => bo_nle c2 q.2.1) | exact bo_n (fun q => bo_nlt c3 q.2.2))
      · skip
        refine lv_iload_n hx hb dX5_placeOf_13 rfl (lv_at hl 2 rfl) ?_
        refine lv_aload_n hx hb dX5_placeOf_14 rfl (lv_at hl 0 rfl) ?_
        refine mo_get hF hK hM 7 (by decide) wd_f_X5_28 rfl dX5_placeOf_15 ?_
        refine lv_iload_n hx hb dX5_placeOf_18 rfl (lv_at hl 1 rfl) ?_
        refine mo_ald hF hK hM 7 x.toNatClampNeg (by decide) (by rw [hcl]; exact ex) (show x.toNatClampNeg < 40 by omega) dX5_placeOf_19 ?_
        refine lv_icmp_ge (tgt := 27) hx hb dX5_placeOf_20 (by decide) (fun c3 => ?_) (fun c3 => ?_)
        · skip
          refine lv_iconst (v := 0) hx hb dX5_placeOf_27 (by decide) ?_
          exact J28 _ (by first | exact bo_p ⟨c1, bo_lt c2, bo_le c3⟩ | exact bo_n (fun q => c1 q.1) | exact bo_n (fun q => bo_nle c2 q.2.1) | exact bo_n (fun q => bo_nlt c3 q.2.2))
        · skip
          refine lv_iconst (v := 1) hx hb dX5_placeOf_23 (by decide) ?_
          refine lv_goto (tgt := 28) hx hb dX5_placeOf_24 (by decide) ?_
          exact J28 _ (by first | exact bo_p ⟨c1, bo_lt c2, bo_le c3⟩ | exact bo_n (fun q => c1 q.1) | exact bo_n (fun q => bo_nle c2 q.2.1) | exact bo_n (fun q => bo_nlt c3 q.2.2))
theorem ke_X5_version : wl_V RX5 yX5_version cX5_version 4 (some .int) 2 := ⟨wd_c_X5_version, wd_i_X5_version, wd_s_X5_version, wd_n_X5, by decide, by decide +kernel⟩
set_option maxHeartbeats 4000000 in
set_option maxRecDepth 100000 in
theorem m_X5_version (l : Launch) (D : va_G) (cI : ClassId) (o : Nat) (a : Nat → Nat) (mm : q_Mem) (hMD : mo_D o a) (x y : Int32) (hI : Inv mm) : mo_Ci l yX5_version cX5_version 4 (some .int) 2 45 D cI o a mm [.int x, .int y] (fun r m1 => (r, m1) = sp_ver mm x y) := by
  refine mo_ofQ (by decide) (Nat.le_of_ble_eq_true rfl) ?_
  intro p e s m args below meth c hx hb hr hF hlk hM hK hS ls hl
  have hA : ∀ q, mo_R o a q → mo_R o a q := fun _ h => h
  have hl : lv_has ls 4 [(0, .ref o), (1, .int x), (2, .int y)] := hl
  have hf : (0 : Nat) ≤ 0 ∧ (0 : Nat) ≤ 0 := ⟨Nat.le_refl 0, Nat.le_refl 0⟩
  refine lv_aload_n hx hb dX5_version_0 rfl (lv_at hl 0 rfl) ?_
  refine lv_iload_n hx hb dX5_version_1 rfl (lv_at hl 1 rfl) ?_
  refine lv_iload_n hx hb dX5_version_2 rfl (lv_at hl 2 rfl) ?_
  refine mo_iV (fr := 1) (lo := 21) (As := [.int x, .int y]) (rest := []) hF (m_X5_placeOf l D cI o a mm hMD x y hI) ke_X5_placeOf wd_l_X5_108 (by decide) hK hM hS hA rfl hl.1 rfl (Nat.le_of_ble_eq_true rfl) dX5_version_3 hf (fun r1 mm2 H locs hr1 hM hS _ _ => ?_)
  by_cases cP : sp_isv mm x y
  · skip
    rw [if_pos cP] at hr1
    obtain ⟨hr1, hr2, hr3⟩ := hr1
    subst hr1
    subst hr3
    refine lv_istore_n (lv' := [(3, .int (nI (sp_at mm x y))), (0, .ref o), (1, .int x), (2, .int y)]) hx hb dX5_version_6 rfl hl (by decide) rfl (fun ls hl => ?_)
    refine lv_iload_n hx hb dX5_version_7 rfl (lv_at hl 0 rfl) ?_
    refine lv_iconst (v := (-1)) hx hb dX5_version_8 (by decide) ?_
    refine lv_icmp_ne (tgt := 16) hx hb dX5_version_9 (by decide) (fun c1 => ?_) (fun c1 => ?_)
    · skip
      refine lv_aload_n hx hb dX5_version_16 rfl (lv_at hl 1 rfl) ?_
      refine mo_get hF hK hM 11 (by decide) wd_f_X5_37 rfl dX5_version_17 ?_
      refine lv_iload_n hx hb dX5_version_20 rfl (lv_at hl 0 rfl) ?_
      refine mo_ald hF hK hM 11 (sp_at mm x y) (by decide) rfl (Nat.lt_trans hr2 hI.K4200) dX5_version_21 ?_
      refine bo_to (v := (mm 11 (sp_at mm x y))) (up2_c (by decide)) ?_
      refine lv_sipush (v := 1000) hx hb dX5_version_22 (by decide) ?_
      refine lv_irem hx hb dX5_version_25 (by decide) ?_
      exact mo_iret hx hb hr hlk hK hM hS (by first | (rw [sp_ver, if_pos cP]; done) | (rw [sp_ver, if_neg cP]; done) | exact absurd c1 (nI_nm1 (by have hKK := hI.K512; omega)) | exact absurd rfl c1) dX5_version_26
    · skip
      exact absurd c1 (nI_nm1 (by have hKK := hI.K512; omega))
  · skip
    rw [if_neg cP] at hr1
    obtain ⟨hr1, hr3⟩ := hr1
    subst hr1
    subst hr3
    refine lv_istore_n (lv' := [(3, .int (-1)), (0, .ref o), (1, .int x), (2, .int y)]) hx hb dX5_version_6 rfl hl (by decide) rfl (fun ls hl => ?_)
    refine lv_iload_n hx hb dX5_version_7 rfl (lv_at hl 0 rfl) ?_
    refine lv_iconst (v := (-1)) hx hb dX5_version_8 (by decide) ?_
    refine lv_icmp_ne (tgt := 16) hx hb dX5_version_9 (by decide) (fun c1 => ?_) (fun c1 => ?_)
    · skip
      exact absurd rfl c1
    · skip
      refine lv_iconst (v := 0) hx hb dX5_version_12 (by decide) ?_
      refine lv_goto (tgt := 26) hx hb dX5_version_13 (by decide) ?_
      exact mo_iret hx hb hr hlk hK hM hS (by first | (rw [sp_ver, if_pos cP]; done) | (rw [sp_ver, if_neg cP]; done) | exact absurd c1 (nI_nm1 (by have hKK := hI.K512; omega)) | exact absurd rfl c1) dX5_version_26
theorem ke_X5_stampOf : wl_V RX5 yX5_stampOf cX5_stampOf 4 (some .int) 2 := ⟨wd_c_X5_stampOf, wd_i_X5_stampOf, wd_s_X5_stampOf, wd_n_X5, by decide, by decide +kernel⟩
set_option maxHeartbeats 4000000 in
set_option maxRecDepth 100000 in
theorem m_X5_stampOf (l : Launch) (D : va_G) (cI : ClassId) (o : Nat) (a : Nat → Nat) (mm : q_Mem) (hMD : mo_D o a) (x y : Int32) (hI : Inv mm) : mo_Ci l yX5_stampOf cX5_stampOf 4 (some .int) 2 45 D cI o a mm [.int x, .int y] (fun r m1 => (r, m1) = sp_sta mm x y) := by
  refine mo_ofQ (by decide) (Nat.le_of_ble_eq_true rfl) ?_
  intro p e s m args below meth c hx hb hr hF hlk hM hK hS ls hl
  have hA : ∀ q, mo_R o a q → mo_R o a q := fun _ h => h
  have hl : lv_has ls 4 [(0, .ref o), (1, .int x), (2, .int y)] := hl
  have hf : (0 : Nat) ≤ 0 ∧ (0 : Nat) ≤ 0 := ⟨Nat.le_refl 0, Nat.le_refl 0⟩
  refine lv_aload_n hx hb dX5_stampOf_0 rfl (lv_at hl 0 rfl) ?_
  refine lv_iload_n hx hb dX5_stampOf_1 rfl (lv_at hl 1 rfl) ?_
  refine lv_iload_n hx hb dX5_stampOf_2 rfl (lv_at hl 2 rfl) ?_
  refine mo_iV (fr := 1) (lo := 21) (As := [.int x, .int y]) (rest := []) hF (m_X5_placeOf l D cI o a mm hMD x y hI) ke_X5_placeOf wd_l_X5_108 (by decide) hK hM hS hA rfl hl.1 rfl (Nat.le_of_ble_eq_true rfl) dX5_stampOf_3 hf (fun r1 mm2 H locs hr1 hM hS _ _ => ?_)
  by_cases cP : sp_isv mm x y
  · skip
    rw [if_pos cP] at hr1
    obtain ⟨hr1, hr2, hr3⟩ := hr1
    subst hr1
    subst hr3
    refine lv_istore_n (lv' := [(3, .int (nI (sp_at mm x y))), (0, .ref o), (1, .int x), (2, .int y)]) hx hb dX5_stampOf_6 rfl hl (by decide) rfl (fun ls hl => ?_)
    refine lv_iload_n hx hb dX5_stampOf_7 rfl (lv_at hl 0 rfl) ?_
    refine lv_iconst (v := (-1)) hx hb dX5_stampOf_8 (by decide) ?_
    refine lv_icmp_ne (tgt := 16) hx hb dX5_stampOf_9 (by decide) (fun c1 => ?_) (fun c1 => ?_)
    · skip
      refine lv_iload_n hx hb dX5_stampOf_16 rfl (lv_at hl 0 rfl) ?_
      refine lv_iconst (v := 1) hx hb dX5_stampOf_17 (by decide) ?_
      refine lv_iadd hx hb dX5_stampOf_18 ?_
      exact mo_iret hx hb hr hlk hK hM hS (by first | (rw [sp_sta, if_pos cP]; done) | (rw [sp_sta, if_neg cP]; done) | exact absurd c1 (nI_nm1 (by have hKK := hI.K512; omega)) | exact absurd rfl c1) dX5_stampOf_19
    · skip
      exact absurd c1 (nI_nm1 (by have hKK := hI.K512; omega))
  · skip
    rw [if_neg cP] at hr1
    obtain ⟨hr1, hr3⟩ := hr1
    subst hr1
    subst hr3
    refine lv_istore_n (lv' := [(3, .int (-1)), (0, .ref o), (1, .int x), (2, .int y)]) hx hb dX5_stampOf_6 rfl hl (by decide) rfl (fun ls hl => ?_)
    refine lv_iload_n hx hb dX5_stampOf_7 rfl (lv_at hl 0 rfl) ?_
    refine lv_iconst (v := (-1)) hx hb dX5_stampOf_8 (by decide) ?_
    refine lv_icmp_ne (tgt := 16) hx hb dX5_stampOf_9 (by decide) (fun c1 => ?_) (fun c1 => ?_)
    · skip
      exact absurd rfl c1
    · skip
      refine lv_iconst (v := 0) hx hb dX5_stampOf_12 (by decide) ?_
      refine lv_goto (tgt := 19) hx hb dX5_stampOf_13 (by decide) ?_
      exact mo_iret hx hb hr hlk hK hM hS (by first | (rw [sp_sta, if_pos cP]; done) | (rw [sp_sta, if_neg cP]; done) | exact absurd c1 (nI_nm1 (by have hKK := hI.K512; omega)) | exact absurd rfl c1) dX5_stampOf_19
