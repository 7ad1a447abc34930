theorem dX4_carAt_0 : decode cX4_carAt 0 = .ok (.iload_n 1, 1) := by decide +kernel
theorem dX4_carAt_1 : decode cX4_carAt 1 = .ok (.invokestatic 207, 3) := by decide +kernel
theorem dX4_carAt_4 : decode cX4_carAt 4 = .ok (.bipush 100, 2) := by decide +kernel
theorem dX4_carAt_6 : decode cX4_carAt 6 = .ok (.aload_n 0, 1) := by decide +kernel
theorem dX4_carAt_7 : decode cX4_carAt 7 = .ok (.getfield 20, 3) := by decide +kernel
theorem dX4_carAt_10 : decode cX4_carAt 10 = .ok (.iload_n 1, 1) := by decide +kernel
theorem dX4_carAt_11 : decode cX4_carAt 11 = .ok (.iaload, 1) := by decide +kernel
theorem dX4_carAt_12 : decode cX4_carAt 12 = .ok (.imul, 1) := by decide +kernel
theorem dX4_carAt_13 : decode cX4_carAt 13 = .ok (.aload_n 0, 1) := by decide +kernel
theorem dX4_carAt_14 : decode cX4_carAt 14 = .ok (.getfield 23, 3) := by decide +kernel
theorem dX4_carAt_17 : decode cX4_carAt 17 = .ok (.iload_n 1, 1) := by decide +kernel
theorem dX4_carAt_18 : decode cX4_carAt 18 = .ok (.iaload, 1) := by decide +kernel
theorem dX4_carAt_19 : decode cX4_carAt 19 = .ok (.iadd, 1) := by decide +kernel
theorem dX4_carAt_20 : decode cX4_carAt 20 = .ok (.ireturn, 1) := by decide +kernel
theorem dX4_clock_0 : decode cX4_clock 0 = .ok (.aload_n 0, 1) := by decide +kernel
theorem dX4_clock_1 : decode cX4_clock 1 = .ok (.getfield 32, 3) := by decide +kernel
theorem dX4_clock_4 : decode cX4_clock 4 = .ok (.ireturn, 1) := by decide +kernel
theorem dX4_drive_0 : decode cX4_drive 0 = .ok (.iload_n 1, 1) := by decide +kernel
theorem dX4_drive_1 : decode cX4_drive 1 = .ok (.invokestatic 207, 3) := by decide +kernel
theorem dX4_drive_4 : decode cX4_drive 4 = .ok (.iload_n 2, 1) := by decide +kernel
theorem dX4_drive_5 : decode cX4_drive 5 = .ok (.iload_n 3, 1) := by decide +kernel
theorem dX4_drive_6 : decode cX4_drive 6 = .ok (.invokestatic 46, 3) := by decide +kernel
theorem dX4_drive_9 : decode cX4_drive 9 = .ok (.aload_n 0, 1) := by decide +kernel
theorem dX4_drive_10 : decode cX4_drive 10 = .ok (.getfield 20, 3) := by decide +kernel
theorem dX4_drive_13 : decode cX4_drive 13 = .ok (.iload_n 1, 1) := by decide +kernel
theorem dX4_drive_14 : decode cX4_drive 14 = .ok (.iaload, 1) := by decide +kernel
theorem dX4_drive_15 : decode cX4_drive 15 = .ok (.aload_n 0, 1) := by decide +kernel
theorem dX4_drive_16 : decode cX4_drive 16 = .ok (.getfield 23, 3) := by decide +kernel
theorem dX4_drive_19 : decode cX4_drive 19 = .ok (.iload_n 1, 1) := by decide +kernel
theorem dX4_drive_20 : decode cX4_drive 20 = .ok (.iaload, 1) := by decide +kernel
theorem dX4_drive_21 : decode cX4_drive 21 = .ok (.iload_n 2, 1) := by decide +kernel
theorem dX4_drive_22 : decode cX4_drive 22 = .ok (.iload_n 3, 1) := by decide +kernel
theorem dX4_drive_23 : decode cX4_drive 23 = .ok (.invokestatic 210, 3) := by decide +kernel
theorem dX4_drive_26 : decode cX4_drive 26 = .ok (.istore 4, 2) := by decide +kernel
theorem dX4_drive_28 : decode cX4_drive 28 = .ok (.aload_n 0, 1) := by decide +kernel
theorem dX4_drive_29 : decode cX4_drive 29 = .ok (.getfield 20, 3) := by decide +kernel
theorem dX4_drive_32 : decode cX4_drive 32 = .ok (.iload_n 1, 1) := by decide +kernel
theorem dX4_drive_33 : decode cX4_drive 33 = .ok (.iload_n 2, 1) := by decide +kernel
theorem dX4_drive_34 : decode cX4_drive 34 = .ok (.iastore, 1) := by decide +kernel
theorem dX4_drive_35 : decode cX4_drive 35 = .ok (.aload_n 0, 1) := by decide +kernel
theorem dX4_drive_36 : decode cX4_drive 36 = .ok (.getfield 23, 3) := by decide +kernel
theorem dX4_drive_39 : decode cX4_drive 39 = .ok (.iload_n 1, 1) := by decide +kernel
theorem dX4_drive_40 : decode cX4_drive 40 = .ok (.iload_n 3, 1) := by decide +kernel
theorem dX4_drive_41 : decode cX4_drive 41 = .ok (.iastore, 1) := by decide +kernel
theorem dX4_drive_42 : decode cX4_drive 42 = .ok (.iload 4, 2) := by decide +kernel
theorem dX4_drive_44 : decode cX4_drive 44 = .ok (.ireturn, 1) := by decide +kernel
theorem dX4_guard_0 : decode cX4_guard 0 = .ok (.aload_n 0, 1) := by decide +kernel
theorem dX4_guard_1 : decode cX4_guard 1 = .ok (.iload_n 1, 1) := by decide +kernel
theorem dX4_guard_2 : decode cX4_guard 2 = .ok (.invokevirtual 96, 3) := by decide +kernel
theorem dX4_guard_5 : decode cX4_guard 5 = .ok (.astore_n 3, 1) := by decide +kernel
theorem dX4_guard_6 : decode cX4_guard 6 = .ok (.iload_n 2, 1) := by decide +kernel
theorem dX4_guard_7 : decode cX4_guard 7 = .ok (.iconst 0, 1) := by decide +kernel
theorem dX4_guard_8 : decode cX4_guard 8 = .ok (.bipush 100, 2) := by decide +kernel
theorem dX4_guard_10 : decode cX4_guard 10 = .ok (.invokestatic 50, 3) := by decide +kernel
theorem dX4_guard_13 : decode cX4_guard 13 = .ok (.ifCond .ne 13, 3) := by decide +kernel
theorem dX4_guard_16 : decode cX4_guard 16 = .ok (.new 58, 3) := by decide +kernel
theorem dX4_guard_19 : decode cX4_guard 19 = .ok (.dup, 1) := by decide +kernel
theorem dX4_guard_20 : decode cX4_guard 20 = .ok (.ldc 153, 2) := by decide +kernel
theorem dX4_guard_22 : decode cX4_guard 22 = .ok (.invokespecial 62, 3) := by decide +kernel
theorem dX4_guard_25 : decode cX4_guard 25 = .ok (.athrow, 1) := by decide +kernel
theorem dX4_guard_26 : decode cX4_guard 26 = .ok (.aload_n 3, 1) := by decide +kernel
theorem dX4_guard_27 : decode cX4_guard 27 = .ok (.getfield 113, 3) := by decide +kernel
theorem dX4_guard_30 : decode cX4_guard 30 = .ok (.istore 4, 2) := by decide +kernel
theorem dX4_guard_32 : decode cX4_guard 32 = .ok (.aload_n 3, 1) := by decide +kernel
theorem dX4_guard_33 : decode cX4_guard 33 = .ok (.iload_n 2, 1) := by decide +kernel
theorem dX4_guard_34 : decode cX4_guard 34 = .ok (.putfield 113, 3) := by decide +kernel
theorem dX4_guard_37 : decode cX4_guard 37 = .ok (.iload 4, 2) := by decide +kernel
theorem dX4_guard_39 : decode cX4_guard 39 = .ok (.ireturn, 1) := by decide +kernel
theorem dX4_isStale_0 : decode cX4_isStale 0 = .ok (.aload_n 0, 1) := by decide +kernel
theorem dX4_isStale_1 : decode cX4_isStale 1 = .ok (.aload_n 0, 1) := by decide +kernel
theorem dX4_isStale_2 : decode cX4_isStale 2 = .ok (.getfield 28, 3) := by decide +kernel
theorem dX4_isStale_5 : decode cX4_isStale 5 = .ok (.iload_n 1, 1) := by decide +kernel
theorem dX4_isStale_6 : decode cX4_isStale 6 = .ok (.iload_n 2, 1) := by decide +kernel
theorem dX4_isStale_7 : decode cX4_isStale 7 = .ok (.iload_n 3, 1) := by decide +kernel
theorem dX4_isStale_8 : decode cX4_isStale 8 = .ok (.invokestatic 168, 3) := by decide +kernel
theorem dX4_isStale_11 : decode cX4_isStale 11 = .ok (.aaload, 1) := by decide +kernel
theorem dX4_isStale_12 : decode cX4_isStale 12 = .ok (.invokevirtual 193, 3) := by decide +kernel
theorem dX4_isStale_15 : decode cX4_isStale 15 = .ok (.ireturn, 1) := by decide +kernel
theorem dX4_send_0 : decode cX4_send 0 = .ok (.iload_n 1, 1) := by decide +kernel
theorem dX4_send_1 : decode cX4_send 1 = .ok (.invokestatic 207, 3) := by decide +kernel
theorem dX4_send_4 : decode cX4_send 4 = .ok (.aload_n 0, 1) := by decide +kernel
theorem dX4_send_5 : decode cX4_send 5 = .ok (.aload_n 0, 1) := by decide +kernel
theorem dX4_send_6 : decode cX4_send 6 = .ok (.getfield 20, 3) := by decide +kernel
theorem dX4_send_9 : decode cX4_send 9 = .ok (.iload_n 1, 1) := by decide +kernel
theorem dX4_send_10 : decode cX4_send 10 = .ok (.iaload, 1) := by decide +kernel
theorem dX4_send_11 : decode cX4_send 11 = .ok (.aload_n 0, 1) := by decide +kernel
theorem dX4_send_12 : decode cX4_send 12 = .ok (.getfield 23, 3) := by decide +kernel
theorem dX4_send_15 : decode cX4_send 15 = .ok (.iload_n 1, 1) := by decide +kernel
theorem dX4_send_16 : decode cX4_send 16 = .ok (.iaload, 1) := by decide +kernel
theorem dX4_send_17 : decode cX4_send 17 = .ok (.invokevirtual 236, 3) := by decide +kernel
theorem dX4_send_20 : decode cX4_send 20 = .ok (.istore_n 2, 1) := by decide +kernel
theorem dX4_send_21 : decode cX4_send 21 = .ok (.iload_n 2, 1) := by decide +kernel
theorem dX4_send_22 : decode cX4_send 22 = .ok (.iconst (-1), 1) := by decide +kernel
theorem dX4_send_23 : decode cX4_send 23 = .ok (.if_icmp .ne 13, 3) := by decide +kernel
theorem dX4_send_26 : decode cX4_send 26 = .ok (.new 73, 3) := by decide +kernel
theorem dX4_send_29 : decode cX4_send 29 = .ok (.dup, 1) := by decide +kernel
theorem dX4_send_30 : decode cX4_send 30 = .ok (.ldc 239, 2) := by decide +kernel
theorem dX4_send_32 : decode cX4_send 32 = .ok (.invokespecial 77, 3) := by decide +kernel
theorem dX4_send_35 : decode cX4_send 35 = .ok (.athrow, 1) := by decide +kernel
theorem dX4_send_36 : decode cX4_send 36 = .ok (.aload_n 0, 1) := by decide +kernel
theorem dX4_send_37 : decode cX4_send 37 = .ok (.iload_n 2, 1) := by decide +kernel
theorem dX4_send_38 : decode cX4_send 38 = .ok (.invokevirtual 96, 3) := by decide +kernel
theorem dX4_send_41 : decode cX4_send 41 = .ok (.astore_n 3, 1) := by decide +kernel
theorem dX4_send_42 : decode cX4_send 42 = .ok (.aload_n 3, 1) := by decide +kernel
theorem dX4_send_43 : decode cX4_send 43 = .ok (.aload_n 0, 1) := by decide +kernel
theorem dX4_send_44 : decode cX4_send 44 = .ok (.getfield 20, 3) := by decide +kernel
theorem dX4_send_47 : decode cX4_send 47 = .ok (.iload_n 1, 1) := by decide +kernel
theorem dX4_send_48 : decode cX4_send 48 = .ok (.iaload, 1) := by decide +kernel
theorem dX4_send_49 : decode cX4_send 49 = .ok (.aload_n 0, 1) := by decide +kernel
theorem dX4_send_50 : decode cX4_send 50 = .ok (.getfield 23, 3) := by decide +kernel
theorem dX4_send_53 : decode cX4_send 53 = .ok (.iload_n 1, 1) := by decide +kernel
theorem dX4_send_54 : decode cX4_send 54 = .ok (.iaload, 1) := by decide +kernel
theorem dX4_send_55 : decode cX4_send 55 = .ok (.invokevirtual 241, 3) := by decide +kernel
theorem dX4_send_58 : decode cX4_send 58 = .ok (.istore 4, 2) := by decide +kernel
theorem dX4_send_60 : decode cX4_send 60 = .ok (.aload_n 3, 1) := by decide +kernel
theorem dX4_send_61 : decode cX4_send 61 = .ok (.aload_n 0, 1) := by decide +kernel
theorem dX4_send_62 : decode cX4_send 62 = .ok (.getfield 20, 3) := by decide +kernel
theorem dX4_send_65 : decode cX4_send 65 = .ok (.iload_n 1, 1) := by decide +kernel
theorem dX4_send_66 : decode cX4_send 66 = .ok (.iaload, 1) := by decide +kernel
theorem dX4_send_67 : decode cX4_send 67 = .ok (.aload_n 0, 1) := by decide +kernel
theorem dX4_send_68 : decode cX4_send 68 = .ok (.getfield 23, 3) := by decide +kernel
theorem dX4_send_71 : decode cX4_send 71 = .ok (.iload_n 1, 1) := by decide +kernel
theorem dX4_send_72 : decode cX4_send 72 = .ok (.iaload, 1) := by decide +kernel
theorem dX4_send_73 : decode cX4_send 73 = .ok (.invokevirtual 244, 3) := by decide +kernel
theorem dX4_send_76 : decode cX4_send 76 = .ok (.istore 5, 2) := by decide +kernel
theorem dX4_send_78 : decode cX4_send 78 = .ok (.iload 5, 2) := by decide +kernel
theorem dX4_send_80 : decode cX4_send 80 = .ok (.iload 4, 2) := by decide +kernel
theorem dX4_send_82 : decode cX4_send 82 = .ok (.if_icmp .ge 7, 3) := by decide +kernel
theorem dX4_send_85 : decode cX4_send 85 = .ok (.iconst 1, 1) := by decide +kernel
theorem dX4_send_86 : decode cX4_send 86 = .ok (.goto 4, 3) := by decide +kernel
theorem dX4_send_89 : decode cX4_send 89 = .ok (.iconst 0, 1) := by decide +kernel
theorem dX4_send_90 : decode cX4_send 90 = .ok (.istore 6, 2) := by decide +kernel
theorem dX4_send_92 : decode cX4_send 92 = .ok (.aload_n 0, 1) := by decide +kernel
theorem dX4_send_93 : decode cX4_send 93 = .ok (.getfield 20, 3) := by decide +kernel
theorem dX4_send_96 : decode cX4_send 96 = .ok (.iload_n 1, 1) := by decide +kernel
theorem dX4_send_97 : decode cX4_send 97 = .ok (.iload 6, 2) := by decide +kernel
theorem dX4_send_99 : decode cX4_send 99 = .ok (.ifCond .eq 10, 3) := by decide +kernel
theorem dX4_send_102 : decode cX4_send 102 = .ok (.aload_n 3, 1) := by decide +kernel
theorem dX4_send_103 : decode cX4_send 103 = .ok (.getfield 247, 3) := by decide +kernel
theorem dX4_send_106 : decode cX4_send 106 = .ok (.goto 7, 3) := by decide +kernel
theorem dX4_send_109 : decode cX4_send 109 = .ok (.aload_n 3, 1) := by decide +kernel
theorem dX4_send_110 : decode cX4_send 110 = .ok (.getfield 250, 3) := by decide +kernel
theorem dX4_send_113 : decode cX4_send 113 = .ok (.iastore, 1) := by decide +kernel
theorem dX4_send_114 : decode cX4_send 114 = .ok (.aload_n 0, 1) := by decide +kernel
theorem dX4_send_115 : decode cX4_send 115 = .ok (.getfield 23, 3) := by decide +kernel
theorem dX4_send_118 : decode cX4_send 118 = .ok (.iload_n 1, 1) := by decide +kernel
theorem dX4_send_119 : decode cX4_send 119 = .ok (.iload 6, 2) := by decide +kernel
theorem dX4_send_121 : decode cX4_send 121 = .ok (.ifCond .eq 10, 3) := by decide +kernel
theorem dX4_send_124 : decode cX4_send 124 = .ok (.aload_n 3, 1) := by decide +kernel
theorem dX4_send_125 : decode cX4_send 125 = .ok (.getfield 253, 3) := by decide +kernel
theorem dX4_send_128 : decode cX4_send 128 = .ok (.goto 7, 3) := by decide +kernel
theorem dX4_send_131 : decode cX4_send 131 = .ok (.aload_n 3, 1) := by decide +kernel
theorem dX4_send_132 : decode cX4_send 132 = .ok (.getfield 256, 3) := by decide +kernel
theorem dX4_send_135 : decode cX4_send 135 = .ok (.iastore, 1) := by decide +kernel
theorem dX4_send_136 : decode cX4_send 136 = .ok (.iload 6, 2) := by decide +kernel
theorem dX4_send_138 : decode cX4_send 138 = .ok (.ifCond .eq 8, 3) := by decide +kernel
theorem dX4_send_141 : decode cX4_send 141 = .ok (.iload 5, 2) := by decide +kernel
theorem dX4_send_143 : decode cX4_send 143 = .ok (.goto 5, 3) := by decide +kernel
theorem dX4_send_146 : decode cX4_send 146 = .ok (.iload 4, 2) := by decide +kernel
theorem dX4_send_148 : decode cX4_send 148 = .ok (.ireturn, 1) := by decide +kernel
theorem dX4_staleTiles_0 : decode cX4_staleTiles 0 = .ok (.iload_n 1, 1) := by decide +kernel
theorem dX4_staleTiles_1 : decode cX4_staleTiles 1 = .ok (.invokestatic 197, 3) := by decide +kernel
theorem dX4_staleTiles_4 : decode cX4_staleTiles 4 = .ok (.getstatic 200, 3) := by decide +kernel
theorem dX4_staleTiles_7 : decode cX4_staleTiles 7 = .ok (.iload_n 1, 1) := by decide +kernel
theorem dX4_staleTiles_8 : decode cX4_staleTiles 8 = .ok (.iaload, 1) := by decide +kernel
theorem dX4_staleTiles_9 : decode cX4_staleTiles 9 = .ok (.istore_n 2, 1) := by decide +kernel
theorem dX4_staleTiles_10 : decode cX4_staleTiles 10 = .ok (.iload_n 2, 1) := by decide +kernel
theorem dX4_staleTiles_11 : decode cX4_staleTiles 11 = .ok (.iload_n 1, 1) := by decide +kernel
theorem dX4_staleTiles_12 : decode cX4_staleTiles 12 = .ok (.invokestatic 203, 3) := by decide +kernel
theorem dX4_staleTiles_15 : decode cX4_staleTiles 15 = .ok (.iload_n 1, 1) := by decide +kernel
theorem dX4_staleTiles_16 : decode cX4_staleTiles 16 = .ok (.invokestatic 203, 3) := by decide +kernel
theorem dX4_staleTiles_19 : decode cX4_staleTiles 19 = .ok (.imul, 1) := by decide +kernel
theorem dX4_staleTiles_20 : decode cX4_staleTiles 20 = .ok (.iadd, 1) := by decide +kernel
theorem dX4_staleTiles_21 : decode cX4_staleTiles 21 = .ok (.istore_n 3, 1) := by decide +kernel
theorem dX4_staleTiles_22 : decode cX4_staleTiles 22 = .ok (.iconst 0, 1) := by decide +kernel
theorem dX4_staleTiles_23 : decode cX4_staleTiles 23 = .ok (.istore 4, 2) := by decide +kernel
theorem dX4_staleTiles_25 : decode cX4_staleTiles 25 = .ok (.iload_n 2, 1) := by decide +kernel
theorem dX4_staleTiles_26 : decode cX4_staleTiles 26 = .ok (.istore 5, 2) := by decide +kernel
theorem dX4_staleTiles_28 : decode cX4_staleTiles 28 = .ok (.iload 5, 2) := by decide +kernel
theorem dX4_staleTiles_30 : decode cX4_staleTiles 30 = .ok (.iload_n 3, 1) := by decide +kernel
theorem dX4_staleTiles_31 : decode cX4_staleTiles 31 = .ok (.if_icmp .ge 26, 3) := by decide +kernel
theorem dX4_staleTiles_34 : decode cX4_staleTiles 34 = .ok (.aload_n 0, 1) := by decide +kernel
theorem dX4_staleTiles_35 : decode cX4_staleTiles 35 = .ok (.aload_n 0, 1) := by decide +kernel
theorem dX4_staleTiles_36 : decode cX4_staleTiles 36 = .ok (.getfield 28, 3) := by decide +kernel
theorem dX4_staleTiles_39 : decode cX4_staleTiles 39 = .ok (.iload 5, 2) := by decide +kernel
theorem dX4_staleTiles_41 : decode cX4_staleTiles 41 = .ok (.aaload, 1) := by decide +kernel
theorem dX4_staleTiles_42 : decode cX4_staleTiles 42 = .ok (.invokevirtual 193, 3) := by decide +kernel
theorem dX4_staleTiles_45 : decode cX4_staleTiles 45 = .ok (.ifCond .eq 6, 3) := by decide +kernel
theorem dX4_staleTiles_48 : decode cX4_staleTiles 48 = .ok (.iinc 4 1, 3) := by decide +kernel
theorem dX4_staleTiles_51 : decode cX4_staleTiles 51 = .ok (.iinc 5 1, 3) := by decide +kernel
theorem dX4_staleTiles_54 : decode cX4_staleTiles 54 = .ok (.goto (-26), 3) := by decide +kernel
theorem dX4_staleTiles_57 : decode cX4_staleTiles 57 = .ok (.iload 4, 2) := by decide +kernel
theorem dX4_staleTiles_59 : decode cX4_staleTiles 59 = .ok (.ireturn, 1) := by decide +kernel
theorem dX4_target_0 : decode cX4_target 0 = .ok (.iload_n 1, 1) := by decide +kernel
theorem dX4_target_1 : decode cX4_target 1 = .ok (.invokestatic 207, 3) := by decide +kernel
theorem dX4_target_4 : decode cX4_target 4 = .ok (.aload_n 0, 1) := by decide +kernel
theorem dX4_target_5 : decode cX4_target 5 = .ok (.aload_n 0, 1) := by decide +kernel
theorem dX4_target_6 : decode cX4_target 6 = .ok (.getfield 20, 3) := by decide +kernel
theorem dX4_target_9 : decode cX4_target 9 = .ok (.iload_n 1, 1) := by decide +kernel
theorem dX4_target_10 : decode cX4_target 10 = .ok (.iaload, 1) := by decide +kernel
theorem dX4_target_11 : decode cX4_target 11 = .ok (.aload_n 0, 1) := by decide +kernel
theorem dX4_target_12 : decode cX4_target 12 = .ok (.getfield 23, 3) := by decide +kernel
theorem dX4_target_15 : decode cX4_target 15 = .ok (.iload_n 1, 1) := by decide +kernel
theorem dX4_target_16 : decode cX4_target 16 = .ok (.iaload, 1) := by decide +kernel
theorem dX4_target_17 : decode cX4_target 17 = .ok (.invokevirtual 236, 3) := by decide +kernel
theorem dX4_target_20 : decode cX4_target 20 = .ok (.ireturn, 1) := by decide +kernel
theorem dX4_trust_0 : decode cX4_trust 0 = .ok (.iload_n 1, 1) := by decide +kernel
theorem dX4_trust_1 : decode cX4_trust 1 = .ok (.invokestatic 42, 3) := by decide +kernel
theorem dX4_trust_4 : decode cX4_trust 4 = .ok (.aload_n 0, 1) := by decide +kernel
theorem dX4_trust_5 : decode cX4_trust 5 = .ok (.getfield 16, 3) := by decide +kernel
theorem dX4_trust_8 : decode cX4_trust 8 = .ok (.iload_n 1, 1) := by decide +kernel
theorem dX4_trust_9 : decode cX4_trust 9 = .ok (.iaload, 1) := by decide +kernel
theorem dX4_trust_10 : decode cX4_trust 10 = .ok (.ireturn, 1) := by decide +kernel
theorem dX4_ways_0 : decode cX4_ways 0 = .ok (.aload_n 0, 1) := by decide +kernel
theorem dX4_ways_1 : decode cX4_ways 1 = .ok (.getfield 10, 3) := by decide +kernel
theorem dX4_ways_4 : decode cX4_ways 4 = .ok (.invokevirtual 65, 3) := by decide +kernel
theorem dX4_ways_7 : decode cX4_ways 7 = .ok (.ireturn, 1) := by decide +kernel
theorem ke_X4_isStale : wl_V RX4 yX4_isStale cX4_isStale 4 (some .boolean) 3 := ⟨wd_c_X4_isStale, wd_i_X4_isStale, wd_s_X4_isStale, wd_n_X4, by decide, by decide +kernel⟩
set_option maxHeartbeats 4000000 in
set_option maxRecDepth 100000 in
theorem m_X4_isStale (l : Launch) (hflag : l.stackTraces = false) (G : k_G) (Z : Nat → Prop) (ad : k_Ad) (mm : q_Mem) (z x y : Int32) (hI : Inv mm) : kx_i l yX4_isStale cX4_isStale 4 (some .boolean) 8 133 3 18 G Z ad (k_C G ad mm) [.ref (ad 0 0), .int z, .int x, .int y] (k_po G ad (sp_isst mm z x y)) (k_px k_n3 (sp_isst mm z x y) mm) := by
  refine kx_of (by decide) (Nat.le_of_ble_eq_true rfl) ?_
  intro p e s m args below meth c hx hb hr hF hlk hnt hB ls hl
  obtain ⟨⟨hM, hN⟩, hK, hP, hT⟩ := hB
  have hS : va_S Z s.heap s.heap [] := va_S.rf
  have hl : lv_has ls 4 [(0, .ref (ad 0 0)), (1, .int z), (2, .int x), (3, .int y)] := hl
  refine lv_aload_n hx hb dX4_isStale_0 rfl (lv_at hl 0 rfl) ?_
  refine lv_aload_n hx hb dX4_isStale_1 rfl (lv_at hl 0 rfl) ?_
  refine g_get (C := RX4) (T := TX4) (N := 6) (v := .ref (ad 0 5)) hF hK (hM 0 0 _ rfl) rfl inlX4 4 (by decide) rfl wd_f_X4_28 rfl dX4_isStale_2 ?_
  refine lv_iload_n hx hb dX4_isStale_5 rfl (lv_at hl 1 rfl) ?_
  refine lv_iload_n hx hb dX4_isStale_6 rfl (lv_at hl 2 rfl) ?_
  refine lv_iload_n hx hb dX4_isStale_7 rfl (lv_at hl 3 rfl) ?_
  refine kx_iS (fr := 7) (lo := 110) (mc1 := 2) (ms1 := 12) (As := [.int z, .int x, .int y]) (rest := [.ref (ad 0 5), .ref (ad 0 0)]) hF (m_X4_tileIndex l hflag G Z ad (k_C G ad mm) z x y) ke_X4_tileIndex wd_l_X4_168 (by decide) hM hN hK hP hT hS rfl hl.1 rfl (Nat.le_of_ble_eq_true rfl) dX4_isStale_8 (by decide) hnt hlk (fun E hE => ⟨⟨1, by decide, by rw [sp_isst, if_neg hE.2], hE.1⟩, rfl, rfl⟩) (by decide) (by decide) (fun r1 ur1 H locs hr1 hM hN hS _ _ => ?_)
  obtain ⟨cT, hro, rfl⟩ := hr1
  subst hro
  replace hM : k_H G ad (k_C G ad mm) H := hM
  replace hN : k_N Z ad (k_C G ad mm) := hN
  obtain ⟨tz, tx, ty, ht⟩ := tl_back cT
  refine g_aldq (t0 := 1) (i := sp_t z x y) hF hK (hM 0 5 _ rfl) rfl rfl ht (by decide) dX4_isStale_11 ?_
  refine bo_toV (v := k_rf (mm 13 (sp_t z x y) = 0) (ad 6 (sp_t z x y))) (k_rf_tr _ _ _) ?_
  refine kr_V (fr := 3) (lo := 64) (As := [k_rf (mm 13 (sp_t z x y) = 0) (ad 6 (sp_t z x y))]) (rest := []) hF (m_X4_isOutdatedV l G Z ad mm (sp_t z x y) hI ht) ke_X4_isOutdated wd_l_X4_193 (by decide) hM hK hP hT hS (g_recv hK (hM 0 0 _ rfl) rfl) rfl hl.1 rfl (Nat.le_of_ble_eq_true rfl) dX4_isStale_12 (by decide) (fun r2 hr2 => ?_)
  exact kx_zret hx hb hr hlk hM hN hK hS (by decide) (by decide) (bo_bit hr2) (k_po.of19 (by rw [sp_isst, if_pos cT, hr2]; unfold sp_oldt; rw [tz, tx, ty])) dX4_isStale_15
theorem ke_X4_staleTiles : wl_V RX4 yX4_staleTiles cX4_staleTiles 6 (some .int) 1 := ⟨wd_c_X4_staleTiles, wd_i_X4_staleTiles, wd_s_X4_staleTiles, wd_n_X4, by decide, by decide +kernel⟩
set_option maxHeartbeats 4000000 in
set_option maxRecDepth 100000 in
theorem m_X4_staleTiles (l : Launch) (hflag : l.stackTraces = false) (G : k_G) (Z : Nat → Prop) (ad : k_Ad) (mm : q_Mem) (z : Int32) (hI : Inv mm) : kx_i l yX4_staleTiles cX4_staleTiles 6 (some .int) 7 110 1 6 G Z ad (k_C G ad mm) [.ref (ad 0 0), .int z] (k_po G ad (sp_stl mm z)) (k_px k_n3 (sp_stl mm z) mm) := by
  refine kx_of (by decide) (Nat.le_of_ble_eq_true rfl) ?_
  intro p e s m args below meth c hx hb hr hF hlk hnt hB ls hl
  obtain ⟨⟨hM, hN⟩, hK, hP, hT⟩ := hB
  have hS : va_S Z s.heap s.heap [] := va_S.rf
  have hl : lv_has ls 6 [(0, .ref (ad 0 0)), (1, .int z)] := hl
  refine lv_iload_n hx hb dX4_staleTiles_0 rfl (lv_at hl 1 rfl) ?_
  refine kx_vS (fr := 6) (lo := 90) (mc1 := 1) (ms1 := 6) (As := [.int z]) (rest := []) hF (m_X4_requireZoom l hflag G Z ad (k_C G ad mm) z) ke_X4_requireZoom wd_l_X4_197 (by decide) hM hN hK hP hT hS rfl hl.1 rfl (Nat.le_of_ble_eq_true rfl) dX4_staleTiles_1 (by decide) hnt hlk (fun E hE => ⟨⟨1, by decide, by rw [sp_stl, if_neg (fun q => hE.2 ⟨q.1, le_lt5.mp q.2⟩)], hE.1⟩, rfl, rfl⟩) (by decide) (by decide) (fun ur1 H locs hr1 hM hN hS _ _ => ?_)
  obtain ⟨cZ, rfl⟩ := hr1
  replace hM : k_H G ad (k_C G ad mm) H := hM
  replace hN : k_N Z ad (k_C G ad mm) := hN
  obtain ⟨zi, hz, hze⟩ := nt_zm cZ
  subst hze
  have hp16 := pw_le zi hz
  have hte := tb_end zi hz
  have hpp : 2 ^ zi * 2 ^ zi ≤ 256 := Nat.mul_le_mul hp16 hp16
  have cZ4 : sp_z4 (nI zi) := ⟨cZ.1, le_lt5.mpr cZ.2⟩
  have hzc : (nI zi).toNatClampNeg = zi := nt_c (by omega)
  have hAll : ∃ q, q = 2 ^ zi * 2 ^ zi := ⟨_, rfl⟩
  obtain ⟨al, hal⟩ := hAll
  rw [← hal] at hte hpp
  refine va_gets hF.1 hF.2.1 hT.2.2.1.1 hS hF.2.2.2.1 (hF.2.2.2.2 _ wd_f_X4_200) (fun x h => h) dX4_staleTiles_4 ?_
  refine lv_iload_n hx hb dX4_staleTiles_7 rfl (lv_at hl 1 rfl) ?_
  refine va_ti hF.1 hF.2.1 hT.2.2.1.2 hS (v := .int (nI (tb_z zi))) (vp_in_nI hz (by decide)) (by show Value.int (k_first (nI zi).toNatClampNeg) = _; rw [nI_clamp (by omega)]; rfl) dX4_staleTiles_8 ?_
  refine lv_istore_n (lv' := [(2, .int (nI (tb_z zi))), (0, .ref (ad 0 0)), (1, .int (nI zi))]) hx hb dX4_staleTiles_9 rfl hl (by decide) rfl (fun ls hl => ?_)
  refine lv_iload_n hx hb dX4_staleTiles_10 rfl (lv_at hl 0 rfl) ?_
  refine lv_iload_n hx hb dX4_staleTiles_11 rfl (lv_at hl 2 rfl) ?_
  refine rc_S (fr := 0) (lo := 0) (As := [.int (nI zi)]) (rest := [.int (nI (tb_z zi))]) hF (m_X4_tilesAcross l (nI zi)) ke_X4_tilesAcross wd_l_X4_203 (by decide) bl_true (fun _ _ _ => trivial) rfl hl.1 rfl (Nat.le_of_ble_eq_true rfl) dX4_staleTiles_12 (by decide) (fun r2 hr2 => ?_)
  replace hr2 : r2 = sp_mn (nI zi) := hr2
  subst hr2
  refine bo_to (v := (nI (2 ^ zi))) (sp_mn_nI zi hz) ?_
  refine lv_iload_n hx hb dX4_staleTiles_15 rfl (lv_at hl 2 rfl) ?_
  refine rc_S (fr := 0) (lo := 0) (As := [.int (nI zi)]) (rest := [.int (nI (2 ^ zi)), .int (nI (tb_z zi))]) hF (m_X4_tilesAcross l (nI zi)) ke_X4_tilesAcross wd_l_X4_203 (by decide) bl_true (fun _ _ _ => trivial) rfl hl.1 rfl (Nat.le_of_ble_eq_true rfl) dX4_staleTiles_16 (by decide) (fun r3 hr3 => ?_)
  replace hr3 : r3 = sp_mn (nI zi) := hr3
  subst hr3
  refine bo_to (v := (nI (2 ^ zi))) (sp_mn_nI zi hz) ?_
  refine lv_imul hx hb dX4_staleTiles_19 ?_
  refine bo_to (v := (nI al)) (by rw [hal]; exact pk_mul _ _) ?_
  refine lv_iadd hx hb dX4_staleTiles_20 ?_
  refine bo_to (v := (nI (tb_z zi + al))) (nI_add _ _) ?_
  refine lv_istore_n (lv' := [(3, .int (nI (tb_z zi + al))), (2, .int (nI (tb_z zi))), (0, .ref (ad 0 0)), (1, .int (nI zi))]) hx hb dX4_staleTiles_21 rfl hl (by decide) rfl (fun ls hl => ?_)
  refine lv_iconst (v := 0) hx hb dX4_staleTiles_22 (by decide) ?_
  refine lv_istore (lv' := [(4, .int 0), (3, .int (nI (tb_z zi + al))), (2, .int (nI (tb_z zi))), (0, .ref (ad 0 0)), (1, .int (nI zi))]) hx hb dX4_staleTiles_23 hl (by decide) rfl (fun ls hl => ?_)
  refine lv_iload_n hx hb dX4_staleTiles_25 rfl (lv_at hl 2 rfl) ?_
  refine lv_istore (lv' := [(5, .int (nI (tb_z zi))), (4, .int 0), (3, .int (nI (tb_z zi + al))), (2, .int (nI (tb_z zi))), (0, .ref (ad 0 0)), (1, .int (nI zi))]) hx hb dX4_staleTiles_26 hl (by decide) rfl (fun ls hl => ?_)
  refine bo_loop (σ := Nat) (μ := fun (k : Nat) => al - k) (I := fun (k : Nat) (H : Heap) (locs : List Loc) (ls : Array Slot) => k_H G ad (k_C G ad mm) H ∧ k_N Z ad (k_C G ad mm) ∧ va_S Z s.heap H locs ∧ lv_has ls 6 [(4, .int ((it_b (sp_ste false) (tb_z zi) k (0, (up2 mm 19 0 0))).1)), (5, .int (nI (tb_z zi + k))), (0, .ref (ad 0 0)), (1, .int (nI zi)), (2, .int (nI (tb_z zi))), (3, .int (nI (tb_z zi + al)))] ∧ (k ≤ al)) (0) ⟨hM, hN, hS, lv_sub hl [1, 0, 4, 5, 3, 2] rfl, Nat.zero_le _⟩ ?_
  intro x28 H locs ls hI28 ih28
  obtain ⟨k, ex28⟩ : ∃ z, z = x28 := ⟨_, rfl⟩
  subst ex28
  obtain ⟨hM, hN, hS, hl, hk⟩ := hI28
  refine lv_iload hx hb dX4_staleTiles_28 (lv_at hl 1 rfl) ?_
  refine lv_iload_n hx hb dX4_staleTiles_30 rfl (lv_at hl 5 rfl) ?_
  refine lv_icmp_ge (tgt := 57) hx hb dX4_staleTiles_31 (by decide) (fun c1 => ?_) (fun c1 => ?_)
  · skip
    have hke : k = al := by have := (nI_leI (by omega) (by omega)).mp c1; omega
    refine lv_iload hx hb dX4_staleTiles_57 (lv_at hl 0 rfl) ?_
    exact kx_iret hx hb hr hlk hM hN hK hS (by decide) (by decide) (k_po.of19 (by rw [sp_stl, if_pos cZ4, hzc, hke, hal])) dX4_staleTiles_59
  · skip
    have hkl : k < al := by have : ¬ tb_z zi + al ≤ tb_z zi + k := fun q => c1 (nI_le q (by omega)); omega
    have ht : tb_z zi + k < 341 := by omega
    refine lv_aload_n hx hb dX4_staleTiles_34 rfl (lv_at hl 2 rfl) ?_
    refine lv_aload_n hx hb dX4_staleTiles_35 rfl (lv_at hl 2 rfl) ?_
    refine g_get (C := RX4) (T := TX4) (N := 6) (v := .ref (ad 0 5)) hF hK (hM 0 0 _ rfl) rfl inlX4 4 (by decide) rfl wd_f_X4_28 rfl dX4_staleTiles_36 ?_
    refine lv_iload hx hb dX4_staleTiles_39 (lv_at hl 1 rfl) ?_
    refine g_aldq (t0 := 1) (i := tb_z zi + k) hF hK (hM 0 5 _ rfl) rfl rfl ht (by decide) dX4_staleTiles_41 ?_
    refine bo_toV (v := k_rf (mm 13 (tb_z zi + k) = 0) (ad 6 (tb_z zi + k))) (k_rf_tr _ _ _) ?_
    refine kr_V (fr := 3) (lo := 64) (As := [k_rf (mm 13 (tb_z zi + k) = 0) (ad 6 (tb_z zi + k))]) (rest := []) hF (m_X4_isOutdatedV l G Z ad mm (tb_z zi + k) hI ht) ke_X4_isOutdated wd_l_X4_193 (by decide) hM hK hP hT hS (g_recv hK (hM 0 0 _ rfl) rfl) rfl hl.1 rfl (Nat.le_of_ble_eq_true rfl) dX4_staleTiles_42 (by decide) (fun r4 hr4 => ?_)
    refine bo_eq (tgt := 51) hr4 hx hb dX4_staleTiles_45 (by decide) (fun c2 => ?_) (fun c2 => ?_)
    · skip
      rw [stx_n (m := (up2 mm 19 0 0)) c2] at hl
      refine lv_iinc (v := (nI (tb_z zi + (k + 1)))) (lv' := [(5, .int (nI (tb_z zi + (k + 1)))), (4, .int (it_b (sp_ste false) (tb_z zi) (k + 1) (0, (up2 mm 19 0 0))).1), (0, .ref (ad 0 0)), (1, .int (nI zi)), (2, .int (nI (tb_z zi))), (3, .int (nI (tb_z zi + al)))]) hx hb dX4_staleTiles_51 hl (k := 1) rfl (nI_1 (tb_z zi + k)) (by decide) rfl (fun ls hl => ?_)
      refine lv_goto (tgt := 28) hx hb dX4_staleTiles_54 (by decide) ?_
      exact ih28 (k + 1) _ _ _ (by show al - (k + 1) < al - k; omega) ⟨hM, hN, hS, lv_sub hl [1, 0, 2, 3, 4, 5] rfl, by omega⟩
    · skip
      refine lv_iinc (v := (it_b (sp_ste false) (tb_z zi) (k + 1) (0, (up2 mm 19 0 0))).1) (lv' := [(4, .int (it_b (sp_ste false) (tb_z zi) (k + 1) (0, (up2 mm 19 0 0))).1), (5, .int (nI (tb_z zi + k))), (0, .ref (ad 0 0)), (1, .int (nI zi)), (2, .int (nI (tb_z zi))), (3, .int (nI (tb_z zi + al)))]) hx hb dX4_staleTiles_48 hl (k := 0) rfl (stx_y (m := (up2 mm 19 0 0)) c2) (by decide) rfl (fun ls hl => ?_)
      refine lv_iinc (v := (nI (tb_z zi + (k + 1)))) (lv' := [(5, .int (nI (tb_z zi + (k + 1)))), (4, .int (it_b (sp_ste false) (tb_z zi) (k + 1) (0, (up2 mm 19 0 0))).1), (0, .ref (ad 0 0)), (1, .int (nI zi)), (2, .int (nI (tb_z zi))), (3, .int (nI (tb_z zi + al)))]) hx hb dX4_staleTiles_51 hl (k := 1) rfl (nI_1 (tb_z zi + k)) (by decide) rfl (fun ls hl => ?_)
      refine lv_goto (tgt := 28) hx hb dX4_staleTiles_54 (by decide) ?_
      exact ih28 (k + 1) _ _ _ (by show al - (k + 1) < al - k; omega) ⟨hM, hN, hS, lv_sub hl [1, 0, 2, 3, 4, 5] rfl, by omega⟩
theorem ke_X4_guard : wl_V RX4 yX4_guard cX4_guard 5 (some .int) 2 := ⟨wd_c_X4_guard, wd_i_X4_guard, wd_s_X4_guard, wd_n_X4, by decide, by decide +kernel⟩
set_option maxHeartbeats 4000000 in
set_option maxRecDepth 100000 in
theorem m_X4_guard (l : Launch) (hflag : l.stackTraces = false) (G : k_G) (Z : Nat → Prop) (ad : k_Ad) (mm : q_Mem) (x y : Int32) (hI : Inv mm) : kx_i l yX4_guard cX4_guard 5 (some .int) 7 111 2 12 G Z ad (k_C G ad mm) [.ref (ad 0 0), .int x, .int y] (k_po G ad (sp_guard mm x y)) (k_px k_n3 (sp_guard mm x y) mm) := by
  refine kx_of (by decide) (Nat.le_of_ble_eq_true rfl) ?_
  intro p e s m args below meth c hx hb hr hF hlk hnt hB ls hl
  obtain ⟨⟨hM, hN⟩, hK, hP, hT⟩ := hB
  have hS : va_S Z s.heap s.heap [] := va_S.rf
  have hl : lv_has ls 5 [(0, .ref (ad 0 0)), (1, .int x), (2, .int y)] := hl
  refine lv_aload_n hx hb dX4_guard_0 rfl (lv_at hl 0 rfl) ?_
  refine lv_iload_n hx hb dX4_guard_1 rfl (lv_at hl 1 rfl) ?_
  refine kx_qV (fr := 6) (lo := 90) (mc1 := 1) (ms1 := 6) (As := [.int x]) (rest := []) hF (m_X4_wayAt l hflag G Z ad mm x hI) ke_X4_wayAt wd_l_X4_96 (by decide) hM hN hK hP hT hS (g_recv hK (hM 0 0 _ rfl) rfl) rfl hl.1 rfl (Nat.le_of_ble_eq_true rfl) dX4_guard_2 (by decide) hnt hlk (fun E hE => ⟨⟨1, by decide, by rw [sp_guard, if_neg hE.2], hE.1⟩, rfl, rfl⟩) (by decide) (by decide) (fun r1 ur1 H locs hr1 hM hN hS _ _ => ?_)
  obtain ⟨cW, hro, rfl⟩ := hr1
  replace hM : k_H G ad (k_C G ad mm) H := hM
  replace hN : k_N Z ad (k_C G ad mm) := hN
  obtain ⟨wi, hwi, hwe⟩ := nt_wy hI cW
  have hW40 := hI.W40
  have hKK := hI.K512
  subst hwe
  have hwc : (nI wi).toNatClampNeg = wi := nt_c (by omega)
  rw [hwc] at hro
  subst hro
  refine bo_toV (v := .ref (ad 1 wi)) rfl ?_
  refine lv_astore_n (lv' := [(3, .ref (ad 1 wi)), (0, .ref (ad 0 0)), (1, .int (nI wi)), (2, .int y)]) hx hb dX4_guard_5 rfl hl (by decide) rfl (fun ls hl => ?_)
  refine lv_iload_n hx hb dX4_guard_6 rfl (lv_at hl 3 rfl) ?_
  refine lv_iconst (v := 0) hx hb dX4_guard_7 (by decide) ?_
  refine lv_bipush (v := 100) hx hb dX4_guard_8 (by decide) ?_
  refine rc_S (fr := 0) (lo := 0) (As := [.int y, .int 0, .int 100]) (rest := []) hF (m_X4_isIn l y 0 100) ke_X4_isIn wd_l_X4_50 (by decide) bl_true (fun _ _ _ => trivial) rfl hl.1 rfl (Nat.le_of_ble_eq_true rfl) dX4_guard_10 (by decide) (fun r2 hr2 => ?_)
  refine bo_ne (tgt := 26) hr2 hx hb dX4_guard_13 (by decide) (fun c1 => ?_) (fun c1 => ?_)
  · skip
    refine lv_aload_n hx hb dX4_guard_26 rfl (lv_at hl 0 rfl) ?_
    refine g_get (C := RX3) (T := TX3) (N := 8) (v := .int (mm 6 wi)) hF hK (hM 1 wi _ (kc_w (by assumption))) rfl inlX3 4 (by decide) rfl wd_f_X4_113 rfl dX4_guard_27 ?_
    refine lv_istore (lv' := [(4, .int (mm 6 wi)), (3, .ref (ad 1 wi)), (0, .ref (ad 0 0)), (1, .int (nI wi)), (2, .int y)]) hx hb dX4_guard_30 hl (by decide) rfl (fun ls hl => ?_)
    refine lv_aload_n hx hb dX4_guard_32 rfl (lv_at hl 1 rfl) ?_
    refine lv_iload_n hx hb dX4_guard_33 rfl (lv_at hl 4 rfl) ?_
    refine k_put (v := .int y) hF hK hM hN hS 1 wi (kc_w (by assumption)) rfl inlX3 tyX3 tyX3_ok nmX3 4 (by decide) rfl wd_f_X4_113 rfl rfl rfl (by show 4 < 8; decide) dX4_guard_34 (fun H locs hM hN hS => ?_)
    rw [kcu_guard hwi] at hM hN
    refine lv_iload hx hb dX4_guard_37 (lv_at hl 0 rfl) ?_
    exact kx_iret hx hb hr hlk hM hN hK hS (by decide) (by decide) (k_po.of2 (m2 := up2 (up2 mm 19 0 0) 6 wi y) (by rw [sp_guard, if_pos cW, if_pos c1, hwc]) rfl (by rw [up2_comm (by decide)]; rfl)) dX4_guard_39
  · skip
    exact kx_thr (text := "guard is out of range") hF hflag hP hT k_E_IAE wd_k_X4_58 (by decide) hM hN hK hS hl.1 dX4_guard_16 dX4_guard_19 dX4_guard_20 dX4_guard_22 dX4_guard_25 hnt (by decide) (Nat.le_of_ble_eq_true rfl) (by decide) (by decide) hlk (by decide) (by decide) (⟨2, by decide, by rw [sp_guard, if_pos cW, if_neg c1], rfl⟩)
theorem ke_X4_trust : wl_V RX4 yX4_trust cX4_trust 2 (some .int) 1 := ⟨wd_c_X4_trust, wd_i_X4_trust, wd_s_X4_trust, wd_n_X4, by decide, by decide +kernel⟩
set_option maxHeartbeats 4000000 in
set_option maxRecDepth 100000 in
theorem m_X4_trust (l : Launch) (hflag : l.stackTraces = false) (G : k_G) (Z : Nat → Prop) (ad : k_Ad) (mm : q_Mem) (x : Int32)  : kx_i l yX4_trust cX4_trust 2 (some .int) 7 110 1 6 G Z ad (k_C G ad mm) [.ref (ad 0 0), .int x] (k_po G ad (sp_trust mm x)) (k_px k_n3 (sp_trust mm x) mm) := by
  refine kx_of (by decide) (Nat.le_of_ble_eq_true rfl) ?_
  intro p e s m args below meth c hx hb hr hF hlk hnt hB ls hl
  obtain ⟨⟨hM, hN⟩, hK, hP, hT⟩ := hB
  have hS : va_S Z s.heap s.heap [] := va_S.rf
  have hl : lv_has ls 2 [(0, .ref (ad 0 0)), (1, .int x)] := hl
  refine lv_iload_n hx hb dX4_trust_0 rfl (lv_at hl 1 rfl) ?_
  refine kx_vS (fr := 6) (lo := 90) (mc1 := 1) (ms1 := 6) (As := [.int x]) (rest := []) hF (m_X4_requireEditor l hflag G Z ad (k_C G ad mm) x) ke_X4_requireEditor wd_l_X4_42 (by decide) hM hN hK hP hT hS rfl hl.1 rfl (Nat.le_of_ble_eq_true rfl) dX4_trust_1 (by decide) hnt hlk (fun E hE => ⟨⟨1, by decide, by rw [sp_trust, if_neg hE.2], hE.1⟩, rfl, rfl⟩) (by decide) (by decide) (fun ur1 H locs hr1 hM hN hS _ _ => ?_)
  obtain ⟨cE, rfl⟩ := hr1
  replace hM : k_H G ad (k_C G ad mm) H := hM
  replace hN : k_N Z ad (k_C G ad mm) := hN
  obtain ⟨fi, hf6, hfe⟩ := nt_ed cE
  subst hfe
  refine lv_aload_n hx hb dX4_trust_4 rfl (lv_at hl 0 rfl) ?_
  refine g_get (C := RX4) (T := TX4) (N := 6) (v := .ref (ad 0 2)) hF hK (hM 0 0 _ rfl) rfl inlX4 1 (by decide) rfl wd_f_X4_16 rfl dX4_trust_5 ?_
  refine lv_iload_n hx hb dX4_trust_8 rfl (lv_at hl 1 rfl) ?_
  refine g_ald (t0 := 0) (i := fi) hF hK (hM 0 2 _ rfl) rfl rfl hf6 (by decide) dX4_trust_9 ?_
  refine bo_to (v := (mm 0 fi)) rfl ?_
  exact kx_iret hx hb hr hlk hM hN hK hS (by decide) (by decide) (k_po.of19 (by rw [sp_trust, if_pos cE, nt_c (by omega)])) dX4_trust_10
theorem ke_X4_carAt : wl_V RX4 yX4_carAt cX4_carAt 2 (some .int) 1 := ⟨wd_c_X4_carAt, wd_i_X4_carAt, wd_s_X4_carAt, wd_n_X4, by decide, by decide +kernel⟩
set_option maxHeartbeats 4000000 in
set_option maxRecDepth 100000 in
theorem m_X4_carAt (l : Launch) (hflag : l.stackTraces = false) (G : k_G) (Z : Nat → Prop) (ad : k_Ad) (mm : q_Mem) (x : Int32)  : kx_i l yX4_carAt cX4_carAt 2 (some .int) 7 110 1 6 G Z ad (k_C G ad mm) [.ref (ad 0 0), .int x] (k_po G ad (sp_cat mm x)) (k_px k_n3 (sp_cat mm x) mm) := by
  refine kx_of (by decide) (Nat.le_of_ble_eq_true rfl) ?_
  intro p e s m args below meth c hx hb hr hF hlk hnt hB ls hl
  obtain ⟨⟨hM, hN⟩, hK, hP, hT⟩ := hB
  have hS : va_S Z s.heap s.heap [] := va_S.rf
  have hl : lv_has ls 2 [(0, .ref (ad 0 0)), (1, .int x)] := hl
  refine lv_iload_n hx hb dX4_carAt_0 rfl (lv_at hl 1 rfl) ?_
  refine kx_vS (fr := 6) (lo := 90) (mc1 := 1) (ms1 := 6) (As := [.int x]) (rest := []) hF (m_X4_requireCar l hflag G Z ad (k_C G ad mm) x) ke_X4_requireCar wd_l_X4_207 (by decide) hM hN hK hP hT hS rfl hl.1 rfl (Nat.le_of_ble_eq_true rfl) dX4_carAt_1 (by decide) hnt hlk (fun E hE => ⟨⟨1, by decide, by rw [sp_cat, if_neg hE.2], hE.1⟩, rfl, rfl⟩) (by decide) (by decide) (fun ur1 H locs hr1 hM hN hS _ _ => ?_)
  obtain ⟨cE, rfl⟩ := hr1
  replace hM : k_H G ad (k_C G ad mm) H := hM
  replace hN : k_N Z ad (k_C G ad mm) := hN
  obtain ⟨ci, hci, hce⟩ := nt_car cE
  subst hce
  refine lv_bipush (v := 100) hx hb dX4_carAt_4 (by decide) ?_
  refine lv_aload_n hx hb dX4_carAt_6 rfl (lv_at hl 0 rfl) ?_
  refine g_get (C := RX4) (T := TX4) (N := 6) (v := .ref (ad 0 3)) hF hK (hM 0 0 _ rfl) rfl inlX4 2 (by decide) rfl wd_f_X4_20 rfl dX4_carAt_7 ?_
  refine lv_iload_n hx hb dX4_carAt_10 rfl (lv_at hl 1 rfl) ?_
  refine g_ald (t0 := 0) (i := ci) hF hK (hM 0 3 _ rfl) rfl rfl hci (by decide) dX4_carAt_11 ?_
  refine bo_to (v := (mm 15 ci)) rfl ?_
  refine lv_imul hx hb dX4_carAt_12 ?_
  refine lv_aload_n hx hb dX4_carAt_13 rfl (lv_at hl 0 rfl) ?_
  refine g_get (C := RX4) (T := TX4) (N := 6) (v := .ref (ad 0 4)) hF hK (hM 0 0 _ rfl) rfl inlX4 3 (by decide) rfl wd_f_X4_23 rfl dX4_carAt_14 ?_
  refine lv_iload_n hx hb dX4_carAt_17 rfl (lv_at hl 1 rfl) ?_
  refine g_ald (t0 := 0) (i := ci) hF hK (hM 0 4 _ rfl) rfl rfl hci (by decide) dX4_carAt_18 ?_
  refine bo_to (v := (mm 16 ci)) rfl ?_
  refine lv_iadd hx hb dX4_carAt_19 ?_
  exact kx_iret hx hb hr hlk hM hN hK hS (by decide) (by decide) (k_po.of19 (by rw [sp_cat, if_pos cE, nt_c (by omega)])) dX4_carAt_20
theorem ke_X4_target : wl_V RX4 yX4_target cX4_target 2 (some .int) 1 := ⟨wd_c_X4_target, wd_i_X4_target, wd_s_X4_target, wd_n_X4, by decide, by decide +kernel⟩
set_option maxHeartbeats 4000000 in
set_option maxRecDepth 100000 in
theorem m_X4_target (l : Launch) (hflag : l.stackTraces = false) (G : k_G) (Z : Nat → Prop) (ad : k_Ad) (mm : q_Mem) (x : Int32) (hI : Inv mm) : kx_i l yX4_target cX4_target 2 (some .int) 7 118 1 6 G Z ad (k_C G ad mm) [.ref (ad 0 0), .int x] (k_po G ad (sp_tar mm x)) (k_px k_n3 (sp_tar mm x) mm) := by
  refine kx_of (by decide) (Nat.le_of_ble_eq_true rfl) ?_
  intro p e s m args below meth c hx hb hr hF hlk hnt hB ls hl
  obtain ⟨⟨hM, hN⟩, hK, hP, hT⟩ := hB
  have hS : va_S Z s.heap s.heap [] := va_S.rf
  have hl : lv_has ls 2 [(0, .ref (ad 0 0)), (1, .int x)] := hl
  refine lv_iload_n hx hb dX4_target_0 rfl (lv_at hl 1 rfl) ?_
  refine kx_vS (fr := 6) (lo := 90) (mc1 := 1) (ms1 := 6) (As := [.int x]) (rest := []) hF (m_X4_requireCar l hflag G Z ad (k_C G ad mm) x) ke_X4_requireCar wd_l_X4_207 (by decide) hM hN hK hP hT hS rfl hl.1 rfl (Nat.le_of_ble_eq_true rfl) dX4_target_1 (by decide) hnt hlk (fun E hE => ⟨⟨1, by decide, by rw [sp_tar, if_neg hE.2], hE.1⟩, rfl, rfl⟩) (by decide) (by decide) (fun ur1 H locs hr1 hM hN hS _ _ => ?_)
  obtain ⟨cE, rfl⟩ := hr1
  replace hM : k_H G ad (k_C G ad mm) H := hM
  replace hN : k_N Z ad (k_C G ad mm) := hN
  obtain ⟨ci, hci, hce⟩ := nt_car cE
  subst hce
  refine lv_aload_n hx hb dX4_target_4 rfl (lv_at hl 0 rfl) ?_
  refine lv_aload_n hx hb dX4_target_5 rfl (lv_at hl 0 rfl) ?_
  refine g_get (C := RX4) (T := TX4) (N := 6) (v := .ref (ad 0 3)) hF hK (hM 0 0 _ rfl) rfl inlX4 2 (by decide) rfl wd_f_X4_20 rfl dX4_target_6 ?_
  refine lv_iload_n hx hb dX4_target_9 rfl (lv_at hl 1 rfl) ?_
  refine g_ald (t0 := 0) (i := ci) hF hK (hM 0 3 _ rfl) rfl rfl hci (by decide) dX4_target_10 ?_
  refine bo_to (v := (mm 15 ci)) rfl ?_
  refine lv_aload_n hx hb dX4_target_11 rfl (lv_at hl 0 rfl) ?_
  refine g_get (C := RX4) (T := TX4) (N := 6) (v := .ref (ad 0 4)) hF hK (hM 0 0 _ rfl) rfl inlX4 3 (by decide) rfl wd_f_X4_23 rfl dX4_target_12 ?_
  refine lv_iload_n hx hb dX4_target_15 rfl (lv_at hl 1 rfl) ?_
  refine g_ald (t0 := 0) (i := ci) hF hK (hM 0 4 _ rfl) rfl rfl hci (by decide) dX4_target_16 ?_
  refine bo_to (v := (mm 16 ci)) rfl ?_
  refine kr_V (fr := 4) (lo := 91) (As := [.int (mm 15 ci), .int (mm 16 ci)]) (rest := []) hF (m_X4_targetFrom l G Z ad mm ci hci hI) ke_X4_targetFrom wd_l_X4_236 (by decide) hM hK hP hT hS (g_recv hK (hM 0 0 _ rfl) rfl) rfl hl.1 rfl (Nat.le_of_ble_eq_true rfl) dX4_target_17 (by decide) (fun r2 hr2 => ?_)
  replace hr2 : r2 = sp_tg mm ci := hr2
  subst hr2
  exact kx_iret hx hb hr hlk hM hN hK hS (by decide) (by decide) (k_po.of19 (by rw [sp_tar, if_pos cE, nt_c (by omega)])) dX4_target_20
theorem ke_X4_drive : wl_V RX4 yX4_drive cX4_drive 5 (some .int) 3 := ⟨wd_c_X4_drive, wd_i_X4_drive, wd_s_X4_drive, wd_n_X4, by decide, by decide +kernel⟩
set_option maxHeartbeats 4000000 in
set_option maxRecDepth 100000 in
theorem m_X4_drive (l : Launch) (hflag : l.stackTraces = false) (G : k_G) (Z : Nat → Prop) (ad : k_Ad) (mm : q_Mem) (x y z : Int32) (hI : Inv mm) : kx_i l yX4_drive cX4_drive 5 (some .int) 7 111 2 12 G Z ad (k_C G ad mm) [.ref (ad 0 0), .int x, .int y, .int z] (k_po G ad (sp_drive mm x y z)) (k_px k_n3 (sp_drive mm x y z) mm) := by
  refine kx_of (by decide) (Nat.le_of_ble_eq_true rfl) ?_
  intro p e s m args below meth c hx hb hr hF hlk hnt hB ls hl
  obtain ⟨⟨hM, hN⟩, hK, hP, hT⟩ := hB
  have hS : va_S Z s.heap s.heap [] := va_S.rf
  have hl : lv_has ls 5 [(0, .ref (ad 0 0)), (1, .int x), (2, .int y), (3, .int z)] := hl
  refine lv_iload_n hx hb dX4_drive_0 rfl (lv_at hl 1 rfl) ?_
  refine kx_vS (fr := 6) (lo := 90) (mc1 := 1) (ms1 := 6) (As := [.int x]) (rest := []) hF (m_X4_requireCar l hflag G Z ad (k_C G ad mm) x) ke_X4_requireCar wd_l_X4_207 (by decide) hM hN hK hP hT hS rfl hl.1 rfl (Nat.le_of_ble_eq_true rfl) dX4_drive_1 (by decide) hnt hlk (fun E hE => ⟨⟨1, by decide, by rw [sp_drive, if_neg (fun q => hE.2 q.1)], hE.1⟩, rfl, rfl⟩) (by decide) (by decide) (fun ur1 H locs hr1 hM hN hS _ _ => ?_)
  obtain ⟨cE, rfl⟩ := hr1
  replace hM : k_H G ad (k_C G ad mm) H := hM
  replace hN : k_N Z ad (k_C G ad mm) := hN
  obtain ⟨ci, hci, hce⟩ := nt_car cE
  subst hce
  refine lv_iload_n hx hb dX4_drive_4 rfl (lv_at hl 2 rfl) ?_
  refine lv_iload_n hx hb dX4_drive_5 rfl (lv_at hl 3 rfl) ?_
  refine kx_vS (fr := 6) (lo := 90) (mc1 := 1) (ms1 := 6) (As := [.int y, .int z]) (rest := []) hF (m_X4_requireCrossing l hflag G Z ad (k_C G ad mm) y z) ke_X4_requireCrossing wd_l_X4_46 (by decide) hM hN hK hP hT hS rfl hl.1 rfl (Nat.le_of_ble_eq_true rfl) dX4_drive_6 (by decide) hnt hlk (fun E hE => ⟨⟨1, by decide, by rw [sp_drive, if_neg (fun q => hE.2 q.2)], hE.1⟩, rfl, rfl⟩) (by decide) (by decide) (fun ur2 H locs hr2 hM hN hS _ _ => ?_)
  obtain ⟨cC, rfl⟩ := hr2
  replace hM : k_H G ad (k_C G ad mm) H := hM
  replace hN : k_N Z ad (k_C G ad mm) := hN
  obtain ⟨xi, hxi, hxe⟩ := nt_le (n := 16) (by decide) cC.1
  subst hxe
  obtain ⟨yi, hyi, hye⟩ := nt_le (n := 16) (by decide) cC.2
  subst hye
  refine lv_aload_n hx hb dX4_drive_9 rfl (lv_at hl 0 rfl) ?_
  refine g_get (C := RX4) (T := TX4) (N := 6) (v := .ref (ad 0 3)) hF hK (hM 0 0 _ rfl) rfl inlX4 2 (by decide) rfl wd_f_X4_20 rfl dX4_drive_10 ?_
  refine lv_iload_n hx hb dX4_drive_13 rfl (lv_at hl 1 rfl) ?_
  refine g_ald (t0 := 0) (i := ci) hF hK (hM 0 3 _ rfl) rfl rfl hci (by decide) dX4_drive_14 ?_
  refine bo_to (v := (mm 15 ci)) rfl ?_
  refine lv_aload_n hx hb dX4_drive_15 rfl (lv_at hl 0 rfl) ?_
  refine g_get (C := RX4) (T := TX4) (N := 6) (v := .ref (ad 0 4)) hF hK (hM 0 0 _ rfl) rfl inlX4 3 (by decide) rfl wd_f_X4_23 rfl dX4_drive_16 ?_
  refine lv_iload_n hx hb dX4_drive_19 rfl (lv_at hl 1 rfl) ?_
  refine g_ald (t0 := 0) (i := ci) hF hK (hM 0 4 _ rfl) rfl rfl hci (by decide) dX4_drive_20 ?_
  refine bo_to (v := (mm 16 ci)) rfl ?_
  refine lv_iload_n hx hb dX4_drive_21 rfl (lv_at hl 2 rfl) ?_
  refine lv_iload_n hx hb dX4_drive_22 rfl (lv_at hl 3 rfl) ?_
  refine rc_S (fr := 1) (lo := 24) (As := [.int (mm 15 ci), .int (mm 16 ci), .int (nI xi), .int (nI yi)]) (rest := []) hF (m_X4_distance l (mm 15 ci) (mm 16 ci) (nI xi) (nI yi)) ke_X4_distance wd_l_X4_210 (by decide) bl_true (fun _ _ _ => trivial) rfl hl.1 rfl (Nat.le_of_ble_eq_true rfl) dX4_drive_23 (by decide) (fun r3 hr3 => ?_)
  rw [dst_far hI hci hxi hyi] at hr3
  replace hr3 : r3 = sp_far mm ci (nI xi) (nI yi) := hr3
  subst hr3
  refine lv_istore (lv' := [(4, .int (sp_far mm ci (nI xi) (nI yi))), (0, .ref (ad 0 0)), (1, .int (nI ci)), (2, .int (nI xi)), (3, .int (nI yi))]) hx hb dX4_drive_26 hl (by decide) rfl (fun ls hl => ?_)
  refine lv_aload_n hx hb dX4_drive_28 rfl (lv_at hl 1 rfl) ?_
  refine g_get (C := RX4) (T := TX4) (N := 6) (v := .ref (ad 0 3)) hF hK (hM 0 0 _ rfl) rfl inlX4 2 (by decide) rfl wd_f_X4_20 rfl dX4_drive_29 ?_
  refine lv_iload_n hx hb dX4_drive_32 rfl (lv_at hl 2 rfl) ?_
  refine lv_iload_n hx hb dX4_drive_33 rfl (lv_at hl 3 rfl) ?_
  refine k_ast (v := (nI xi)) (i := ci) hF hK hM hN hS 0 3 rfl rfl hci (by decide) dX4_drive_34 (fun H locs hM hN hS => ?_)
  rw [kcu_carX] at hM hN
  refine lv_aload_n hx hb dX4_drive_35 rfl (lv_at hl 1 rfl) ?_
  refine g_get (C := RX4) (T := TX4) (N := 6) (v := .ref (ad 0 4)) hF hK (hM 0 0 _ rfl) rfl inlX4 3 (by decide) rfl wd_f_X4_23 rfl dX4_drive_36 ?_
  refine lv_iload_n hx hb dX4_drive_39 rfl (lv_at hl 2 rfl) ?_
  refine lv_iload_n hx hb dX4_drive_40 rfl (lv_at hl 4 rfl) ?_
  refine k_ast (v := (nI yi)) (i := ci) hF hK hM hN hS 0 4 rfl rfl hci (by decide) dX4_drive_41 (fun H locs hM hN hS => ?_)
  rw [kcu_carY] at hM hN
  refine lv_iload hx hb dX4_drive_42 (lv_at hl 0 rfl) ?_
  exact kx_iret hx hb hr hlk hM hN hK hS (by decide) (by decide) (k_po.of2 (m2 := sp_goes (up2 mm 19 0 0) ci (nI xi) (nI yi)) (by rw [sp_drive, if_pos (And.intro cE cC), nt_c (by omega)]) rfl rfl) dX4_drive_44
theorem ke_X4_ways : wl_V RX4 yX4_ways cX4_ways 1 (some .int) 0 := ⟨wd_c_X4_ways, wd_i_X4_ways, wd_s_X4_ways, wd_n_X4, by decide, by decide +kernel⟩
set_option maxHeartbeats 4000000 in
set_option maxRecDepth 100000 in
theorem m_X4_ways (l : Launch) (G : k_G) (Z : Nat → Prop) (ad : k_Ad) (mm : q_Mem)  : rc_C l yX4_ways cX4_ways 1 (some .int) 1 20 [.ref (ad 0 0)] (k_R G Z ad mm) (fun r => r = mm 1 0) := by
  refine rc_of (by decide) (Nat.le_of_ble_eq_true rfl) ?_
  intro p e s m args below meth c hx hb hr hF hlk hB ls hl
  obtain ⟨hM, hK, hP, hT⟩ := hB
  have hS : va_S Z s.heap s.heap [] := va_S.rf
  have hl : lv_has ls 1 [(0, .ref (ad 0 0))] := hl
  have hf : (0 : Nat) ≤ 0 ∧ (0 : Nat) ≤ 0 := ⟨Nat.le_refl 0, Nat.le_refl 0⟩
  refine lv_aload_n hx hb dX4_ways_0 rfl (lv_at hl 0 rfl) ?_
  refine g_get (C := RX4) (T := TX4) (N := 6) (v := .ref (ad 0 1)) hF hK (hM 0 0 _ rfl) rfl inlX4 0 (by decide) rfl wd_f_X4_10 rfl dX4_ways_1 ?_
  refine kr_V (fr := 0) (lo := 0) (As := []) (rest := []) hF (m_Jx4a65c_size_8abf5 l G Z ad mm) ke_Jx4a65c_size_8abf5 wd_l_X4_65 (by decide) hM hK hP hT hS (g_recv hK (hM 0 1 _ rfl) rfl) rfl hl.1 rfl (Nat.le_of_ble_eq_true rfl) dX4_ways_4 hf (fun r1 hr1 => ?_)
  replace hr1 : r1 = mm 1 0 := hr1
  subst hr1
  exact rc_iret hx hb hr hlk (rfl) dX4_ways_7
theorem ke_X4_clock : wl_V RX4 yX4_clock cX4_clock 1 (some .int) 0 := ⟨wd_c_X4_clock, wd_i_X4_clock, wd_s_X4_clock, wd_n_X4, by decide, by decide +kernel⟩
set_option maxHeartbeats 4000000 in
set_option maxRecDepth 100000 in
theorem m_X4_clock (l : Launch) (G : k_G) (Z : Nat → Prop) (ad : k_Ad) (mm : q_Mem)  : rc_C l yX4_clock cX4_clock 1 (some .int) 0 0 [.ref (ad 0 0)] (k_R G Z ad mm) (fun r => r = mm 10 0) := by
  refine rc_of (by decide) (Nat.le_of_ble_eq_true rfl) ?_
  intro p e s m args below meth c hx hb hr hF hlk hB ls hl
  obtain ⟨hM, hK, hP, hT⟩ := hB
  have hS : va_S Z s.heap s.heap [] := va_S.rf
  have hl : lv_has ls 1 [(0, .ref (ad 0 0))] := hl
  have hf : (0 : Nat) ≤ 0 ∧ (0 : Nat) ≤ 0 := ⟨Nat.le_refl 0, Nat.le_refl 0⟩
  refine lv_aload_n hx hb dX4_clock_0 rfl (lv_at hl 0 rfl) ?_
  refine g_get (C := RX4) (T := TX4) (N := 6) (v := .int (mm 10 0)) hF hK (hM 0 0 _ rfl) rfl inlX4 5 (by decide) rfl wd_f_X4_32 rfl dX4_clock_1 ?_
  exact rc_iret hx hb hr hlk (rfl) dX4_clock_4
theorem ke_X4_send : wl_V RX4 yX4_send cX4_send 7 (some .int) 1 := ⟨wd_c_X4_send, wd_i_X4_send, wd_s_X4_send, wd_n_X4, by decide, by decide +kernel⟩
set_option maxHeartbeats 4000000 in
set_option maxRecDepth 100000 in
theorem m_X4_send (l : Launch) (hflag : l.stackTraces = false) (G : k_G) (Z : Nat → Prop) (ad : k_Ad) (mm : q_Mem) (x : Int32) (hI : Inv mm) : kx_i l yX4_send cX4_send 7 (some .int) 7 118 3 18 G Z ad (k_C G ad mm) [.ref (ad 0 0), .int x] (k_po G ad (sp_snd mm x)) (k_px k_n2 (sp_snd mm x) mm) := by
  refine kx_of (by decide) (Nat.le_of_ble_eq_true rfl) ?_
  intro p e s m args below meth c hx hb hr hF hlk hnt hB ls hl
  obtain ⟨⟨hM, hN⟩, hK, hP, hT⟩ := hB
  have hS : va_S Z s.heap s.heap [] := va_S.rf
  have hl : lv_has ls 7 [(0, .ref (ad 0 0)), (1, .int x)] := hl
  refine lv_iload_n hx hb dX4_send_0 rfl (lv_at hl 1 rfl) ?_
  refine kx_vS (fr := 6) (lo := 90) (mc1 := 1) (ms1 := 6) (As := [.int x]) (rest := []) hF (m_X4_requireCar l hflag G Z ad (k_C G ad mm) x) ke_X4_requireCar wd_l_X4_207 (by decide) hM hN hK hP hT hS rfl hl.1 rfl (Nat.le_of_ble_eq_true rfl) dX4_send_1 (by decide) hnt hlk (fun E hE => ⟨⟨1, by decide, by rw [sp_snd, if_neg hE.2], hE.1⟩, rfl, rfl⟩) (by decide) (by decide) (fun ur1 H locs hr1 hM hN hS _ _ => ?_)
  obtain ⟨cE, rfl⟩ := hr1
  replace hM : k_H G ad (k_C G ad mm) H := hM
  replace hN : k_N Z ad (k_C G ad mm) := hN
  obtain ⟨ci, hci, hce⟩ := nt_car cE
  subst hce
  refine lv_aload_n hx hb dX4_send_4 rfl (lv_at hl 0 rfl) ?_
  refine lv_aload_n hx hb dX4_send_5 rfl (lv_at hl 0 rfl) ?_
  refine g_get (C := RX4) (T := TX4) (N := 6) (v := .ref (ad 0 3)) hF hK (hM 0 0 _ rfl) rfl inlX4 2 (by decide) rfl wd_f_X4_20 rfl dX4_send_6 ?_
  refine lv_iload_n hx hb dX4_send_9 rfl (lv_at hl 1 rfl) ?_
  refine g_ald (t0 := 0) (i := ci) hF hK (hM 0 3 _ rfl) rfl rfl hci (by decide) dX4_send_10 ?_
  refine bo_to (v := (mm 15 ci)) rfl ?_
  refine lv_aload_n hx hb dX4_send_11 rfl (lv_at hl 0 rfl) ?_
  refine g_get (C := RX4) (T := TX4) (N := 6) (v := .ref (ad 0 4)) hF hK (hM 0 0 _ rfl) rfl inlX4 3 (by decide) rfl wd_f_X4_23 rfl dX4_send_12 ?_
  refine lv_iload_n hx hb dX4_send_15 rfl (lv_at hl 1 rfl) ?_
  refine g_ald (t0 := 0) (i := ci) hF hK (hM 0 4 _ rfl) rfl rfl hci (by decide) dX4_send_16 ?_
  refine bo_to (v := (mm 16 ci)) rfl ?_
  refine kr_V (fr := 4) (lo := 91) (As := [.int (mm 15 ci), .int (mm 16 ci)]) (rest := []) hF (m_X4_targetFrom l G Z ad mm ci hci hI) ke_X4_targetFrom wd_l_X4_236 (by decide) hM hK hP hT hS (g_recv hK (hM 0 0 _ rfl) rfl) rfl hl.1 rfl (Nat.le_of_ble_eq_true rfl) dX4_send_17 (by decide) (fun r2 hr2 => ?_)
  replace hr2 : r2 = sp_tg mm ci := hr2
  subst hr2
  refine lv_istore_n (lv' := [(2, .int (sp_tg mm ci)), (0, .ref (ad 0 0)), (1, .int (nI ci))]) hx hb dX4_send_20 rfl hl (by decide) rfl (fun ls hl => ?_)
  refine lv_iload_n hx hb dX4_send_21 rfl (lv_at hl 0 rfl) ?_
  refine lv_iconst (v := (-1)) hx hb dX4_send_22 (by decide) ?_
  refine lv_icmp_ne (tgt := 36) hx hb dX4_send_23 (by decide) (fun cT => ?_) (fun cT => ?_)
  · skip
    obtain ⟨wi, hwi, etg⟩ := (tg_or mm ci).resolve_left cT
    have hW40 := hI.W40
    have hJ : sp_snd mm (nI ci) = sp_snd0 (up2 mm 19 0 0) ci wi := by rw [sp_snd, if_pos cE, nt_c (by omega), if_neg cT, etg, nt_c (by omega)]
    have cWy : sp_wy mm (nI wi) := ⟨bo_lt (nI_pos (by omega)), by rw [hI.W]; exact nI_lt hwi (by omega)⟩
    have hwc : (nI wi).toNatClampNeg = wi := nt_c (by omega)
    rw [etg] at hl
    refine lv_aload_n hx hb dX4_send_36 rfl (lv_at hl 1 rfl) ?_
    refine lv_iload_n hx hb dX4_send_37 rfl (lv_at hl 0 rfl) ?_
    refine kx_qV (fr := 6) (lo := 90) (mc1 := 1) (ms1 := 6) (As := [.int (nI wi)]) (rest := []) hF (m_X4_wayAt l hflag G Z ad mm (nI wi) hI) ke_X4_wayAt wd_l_X4_96 (by decide) hM hN hK hP hT hS (g_recv hK (hM 0 0 _ rfl) rfl) rfl hl.1 rfl (Nat.le_of_ble_eq_true rfl) dX4_send_38 (by decide) hnt hlk (fun E hE => (hE.2 cWy).elim) (by decide) (by decide) (fun r3 ur3 H locs hr3 hM hN hS _ _ => ?_)
    obtain ⟨cW, hro, rfl⟩ := hr3
    replace hM : k_H G ad (k_C G ad mm) H := hM
    replace hN : k_N Z ad (k_C G ad mm) := hN
    rw [hwc] at hro
    subst hro
    refine bo_toV (v := .ref (ad 1 wi)) rfl ?_
    refine lv_astore_n (lv' := [(3, .ref (ad 1 wi)), (2, .int (nI wi)), (0, .ref (ad 0 0)), (1, .int (nI ci))]) hx hb dX4_send_41 rfl hl (by decide) rfl (fun ls hl => ?_)
    refine lv_aload_n hx hb dX4_send_42 rfl (lv_at hl 0 rfl) ?_
    refine lv_aload_n hx hb dX4_send_43 rfl (lv_at hl 2 rfl) ?_
    refine g_get (C := RX4) (T := TX4) (N := 6) (v := .ref (ad 0 3)) hF hK (hM 0 0 _ rfl) rfl inlX4 2 (by decide) rfl wd_f_X4_20 rfl dX4_send_44 ?_
    refine lv_iload_n hx hb dX4_send_47 rfl (lv_at hl 3 rfl) ?_
    refine g_ald (t0 := 0) (i := ci) hF hK (hM 0 3 _ rfl) rfl rfl hci (by decide) dX4_send_48 ?_
    refine bo_to (v := (mm 15 ci)) rfl ?_
    refine lv_aload_n hx hb dX4_send_49 rfl (lv_at hl 2 rfl) ?_
    refine g_get (C := RX4) (T := TX4) (N := 6) (v := .ref (ad 0 4)) hF hK (hM 0 0 _ rfl) rfl inlX4 3 (by decide) rfl wd_f_X4_23 rfl dX4_send_50 ?_
    refine lv_iload_n hx hb dX4_send_53 rfl (lv_at hl 3 rfl) ?_
    refine g_ald (t0 := 0) (i := ci) hF hK (hM 0 4 _ rfl) rfl rfl hci (by decide) dX4_send_54 ?_
    refine bo_to (v := (mm 16 ci)) rfl ?_
    refine kr_V (fr := 2) (lo := 47) (As := [.int (mm 15 ci), .int (mm 16 ci)]) (rest := []) hF (m_X3_distanceFromBegin l G Z ad mm wi (mm 15 ci) (mm 16 ci) hI hwi) ke_X3_distanceFromBegin wd_l_X4_241 (by decide) hM hK hP hT hS (g_recv hK (hM 1 wi _ (kc_w hwi)) rfl) rfl hl.1 rfl (Nat.le_of_ble_eq_true rfl) dX4_send_55 (by decide) (fun r4 hr4 => ?_)
    rw [dst_b hI hci hwi] at hr4
    replace hr4 : r4 = sp_far mm ci (mm 2 wi) (mm 3 wi) := hr4
    subst hr4
    refine lv_istore (lv' := [(4, .int (sp_far mm ci (mm 2 wi) (mm 3 wi))), (3, .ref (ad 1 wi)), (2, .int (nI wi)), (0, .ref (ad 0 0)), (1, .int (nI ci))]) hx hb dX4_send_58 hl (by decide) rfl (fun ls hl => ?_)
    refine lv_aload_n hx hb dX4_send_60 rfl (lv_at hl 1 rfl) ?_
    refine lv_aload_n hx hb dX4_send_61 rfl (lv_at hl 3 rfl) ?_
    refine g_get (C := RX4) (T := TX4) (N := 6) (v := .ref (ad 0 3)) hF hK (hM 0 0 _ rfl) rfl inlX4 2 (by decide) rfl wd_f_X4_20 rfl dX4_send_62 ?_
    refine lv_iload_n hx hb dX4_send_65 rfl (lv_at hl 4 rfl) ?_
    refine g_ald (t0 := 0) (i := ci) hF hK (hM 0 3 _ rfl) rfl rfl hci (by decide) dX4_send_66 ?_
    refine bo_to (v := (mm 15 ci)) rfl ?_
    refine lv_aload_n hx hb dX4_send_67 rfl (lv_at hl 3 rfl) ?_
    refine g_get (C := RX4) (T := TX4) (N := 6) (v := .ref (ad 0 4)) hF hK (hM 0 0 _ rfl) rfl inlX4 3 (by decide) rfl wd_f_X4_23 rfl dX4_send_68 ?_
    refine lv_iload_n hx hb dX4_send_71 rfl (lv_at hl 4 rfl) ?_
    refine g_ald (t0 := 0) (i := ci) hF hK (hM 0 4 _ rfl) rfl rfl hci (by decide) dX4_send_72 ?_
    refine bo_to (v := (mm 16 ci)) rfl ?_
    refine kr_V (fr := 2) (lo := 47) (As := [.int (mm 15 ci), .int (mm 16 ci)]) (rest := []) hF (m_X3_distanceFromEnd l G Z ad mm wi (mm 15 ci) (mm 16 ci) hI hwi) ke_X3_distanceFromEnd wd_l_X4_244 (by decide) hM hK hP hT hS (g_recv hK (hM 1 wi _ (kc_w hwi)) rfl) rfl hl.1 rfl (Nat.le_of_ble_eq_true rfl) dX4_send_73 (by decide) (fun r5 hr5 => ?_)
    rw [dst_e hI hci hwi] at hr5
    replace hr5 : r5 = sp_far mm ci (mm 4 wi) (mm 5 wi) := hr5
    subst hr5
    refine lv_istore (lv' := [(5, .int (sp_far mm ci (mm 4 wi) (mm 5 wi))), (4, .int (sp_far mm ci (mm 2 wi) (mm 3 wi))), (3, .ref (ad 1 wi)), (2, .int (nI wi)), (0, .ref (ad 0 0)), (1, .int (nI ci))]) hx hb dX4_send_76 hl (by decide) rfl (fun ls hl => ?_)
    refine bo_cut (ls := ls) (tgt := 90) (E := if sp_far mm ci (mm 4 wi) (mm 5 wi) < sp_far mm ci (mm 2 wi) (mm 3 wi) then 1 else 0) (rest := []) (fun vi evi => ?_) (fun J90 => ?_)
    · skip
      refine lv_istore (lv' := [(6, .int vi), (5, .int (sp_far mm ci (mm 4 wi) (mm 5 wi))), (4, .int (sp_far mm ci (mm 2 wi) (mm 3 wi))), (3, .ref (ad 1 wi)), (2, .int (nI wi)), (0, .ref (ad 0 0)), (1, .int (nI ci))]) hx hb dX4_send_90 hl (by decide) rfl (fun ls hl => ?_)
      refine lv_aload_n hx hb dX4_send_92 rfl (lv_at hl 5 rfl) ?_
      refine g_get (C := RX4) (T := TX4) (N := 6) (v := .ref (ad 0 3)) hF hK (hM 0 0 _ rfl) rfl inlX4 2 (by decide) rfl wd_f_X4_20 rfl dX4_send_93 ?_
      refine lv_iload_n hx hb dX4_send_96 rfl (lv_at hl 6 rfl) ?_
      refine lv_iload hx hb dX4_send_97 (lv_at hl 0 rfl) ?_
      refine bo_eq (tgt := 109) evi hx hb dX4_send_99 (by decide) (fun c8 => ?_) (fun c8 => ?_)
      · skip
        refine lv_aload_n hx hb dX4_send_109 rfl (lv_at hl 3 rfl) ?_
        refine g_get (C := RX3) (T := TX3) (N := 8) (v := .int (mm 2 wi)) hF hK (hM 1 wi _ (kc_w hwi)) rfl inlX3 0 (by decide) rfl wd_f_X4_250 rfl dX4_send_110 ?_
        refine bo_to (v := (mm 2 wi)) (rfl) ?_
        refine k_ast (v := (mm 2 wi)) (i := ci) hF hK hM hN hS 0 3 rfl rfl hci (by decide) dX4_send_113 (fun H locs hM hN hS => ?_)
        rw [kcu_carX] at hM hN
        refine lv_aload_n hx hb dX4_send_114 rfl (lv_at hl 5 rfl) ?_
        refine g_get (C := RX4) (T := TX4) (N := 6) (v := .ref (ad 0 4)) hF hK (hM 0 0 _ rfl) rfl inlX4 3 (by decide) rfl wd_f_X4_23 rfl dX4_send_115 ?_
        refine lv_iload_n hx hb dX4_send_118 rfl (lv_at hl 6 rfl) ?_
        refine lv_iload hx hb dX4_send_119 (lv_at hl 0 rfl) ?_
        refine bo_eq (tgt := 131) evi hx hb dX4_send_121 (by decide) (fun c9 => ?_) (fun c9 => ?_)
        · skip
          refine lv_aload_n hx hb dX4_send_131 rfl (lv_at hl 3 rfl) ?_
          refine g_get (C := RX3) (T := TX3) (N := 8) (v := .int ((up2 mm 15 ci (mm 2 wi)) 3 wi)) hF hK (hM 1 wi _ (kc_w hwi)) rfl inlX3 1 (by decide) rfl wd_f_X4_256 rfl dX4_send_132 ?_
          refine bo_to (v := (mm 3 wi)) (rfl) ?_
          refine k_ast (v := (mm 3 wi)) (i := ci) hF hK hM hN hS 0 4 rfl rfl hci (by decide) dX4_send_135 (fun H locs hM hN hS => ?_)
          rw [kcu_carY] at hM hN
          refine lv_iload hx hb dX4_send_136 (lv_at hl 0 rfl) ?_
          refine bo_eq (tgt := 146) evi hx hb dX4_send_138 (by decide) (fun c10 => ?_) (fun c10 => ?_)
          · skip
            refine lv_iload hx hb dX4_send_146 (lv_at hl 2 rfl) ?_
            exact kx_iret hx hb hr hlk hM hN hK hS (by decide) (by decide) (k_po.of2 (m2 := sp_goes (up2 mm 19 0 0) ci (mm 2 wi) (mm 3 wi)) (hJ.trans (if_pos (bo_lt c8))) rfl rfl) dX4_send_148
          · skip
            exact absurd c10 c8
        · skip
          exact absurd c9 c8
      · skip
        refine lv_aload_n hx hb dX4_send_102 rfl (lv_at hl 3 rfl) ?_
        refine g_get (C := RX3) (T := TX3) (N := 8) (v := .int (mm 4 wi)) hF hK (hM 1 wi _ (kc_w hwi)) rfl inlX3 2 (by decide) rfl wd_f_X4_247 rfl dX4_send_103 ?_
        refine bo_to (v := (mm 4 wi)) (rfl) ?_
        refine lv_goto (tgt := 113) hx hb dX4_send_106 (by decide) ?_
        refine k_ast (v := (mm 4 wi)) (i := ci) hF hK hM hN hS 0 3 rfl rfl hci (by decide) dX4_send_113 (fun H locs hM hN hS => ?_)
        rw [kcu_carX] at hM hN
        refine lv_aload_n hx hb dX4_send_114 rfl (lv_at hl 5 rfl) ?_
        refine g_get (C := RX4) (T := TX4) (N := 6) (v := .ref (ad 0 4)) hF hK (hM 0 0 _ rfl) rfl inlX4 3 (by decide) rfl wd_f_X4_23 rfl dX4_send_115 ?_
        refine lv_iload_n hx hb dX4_send_118 rfl (lv_at hl 6 rfl) ?_
        refine lv_iload hx hb dX4_send_119 (lv_at hl 0 rfl) ?_
        refine bo_eq (tgt := 131) evi hx hb dX4_send_121 (by decide) (fun c9 => ?_) (fun c9 => ?_)
        · skip
          exact absurd c8 c9
        · skip
          refine lv_aload_n hx hb dX4_send_124 rfl (lv_at hl 3 rfl) ?_
          refine g_get (C := RX3) (T := TX3) (N := 8) (v := .int ((up2 mm 15 ci (mm 4 wi)) 5 wi)) hF hK (hM 1 wi _ (kc_w hwi)) rfl inlX3 3 (by decide) rfl wd_f_X4_253 rfl dX4_send_125 ?_
          refine bo_to (v := (mm 5 wi)) (rfl) ?_
          refine lv_goto (tgt := 135) hx hb dX4_send_128 (by decide) ?_
          refine k_ast (v := (mm 5 wi)) (i := ci) hF hK hM hN hS 0 4 rfl rfl hci (by decide) dX4_send_135 (fun H locs hM hN hS => ?_)
          rw [kcu_carY] at hM hN
          refine lv_iload hx hb dX4_send_136 (lv_at hl 0 rfl) ?_
          refine bo_eq (tgt := 146) evi hx hb dX4_send_138 (by decide) (fun c10 => ?_) (fun c10 => ?_)
          · skip
            exact absurd c8 c10
          · skip
            refine lv_iload hx hb dX4_send_141 (lv_at hl 1 rfl) ?_
            refine lv_goto (tgt := 148) hx hb dX4_send_143 (by decide) ?_
            exact kx_iret hx hb hr hlk hM hN hK hS (by decide) (by decide) (k_po.of2 (m2 := sp_goes (up2 mm 19 0 0) ci (mm 4 wi) (mm 5 wi)) (hJ.trans (if_neg (bo_nle c8))) rfl rfl) dX4_send_148
    · skip
      refine lv_iload hx hb dX4_send_78 (lv_at hl 0 rfl) ?_
      refine lv_iload hx hb dX4_send_80 (lv_at hl 1 rfl) ?_
      refine lv_icmp_ge (tgt := 89) hx hb dX4_send_82 (by decide) (fun c7 => ?_) (fun c7 => ?_)
      · skip
        refine lv_iconst (v := 0) hx hb dX4_send_89 (by decide) ?_
        exact J90 _ (by first | exact bo_p (bo_le c7) | exact bo_n (bo_nlt c7))
      · skip
        refine lv_iconst (v := 1) hx hb dX4_send_85 (by decide) ?_
        refine lv_goto (tgt := 90) hx hb dX4_send_86 (by decide) ?_
        exact J90 _ (by first | exact bo_p (bo_le c7) | exact bo_n (bo_nlt c7))
  · skip
    exact kx_thr (text := "the car has no target") hF hflag hP hT k_E_ISE wd_k_X4_73 (by decide) hM hN hK hS hl.1 dX4_send_26 dX4_send_29 dX4_send_30 dX4_send_32 dX4_send_35 hnt (by decide) (Nat.le_of_ble_eq_true rfl) (by decide) (by decide) hlk (by decide) (by decide) (⟨2, by decide, by rw [sp_snd, if_pos cE, nt_c (by omega), if_pos cT], rfl⟩)
