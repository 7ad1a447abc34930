theorem dX5_isOld_0 : decode cX5_isOld 0 = .ok (.iconst 0, 1) := by decide +kernel
theorem dX5_isOld_1 : decode cX5_isOld 1 = .ok (.istore 5, 2) := by decide +kernel
theorem dX5_isOld_3 : decode cX5_isOld 3 = .ok (.aload_n 0, 1) := by decide +kernel
theorem dX5_isOld_4 : decode cX5_isOld 4 = .ok (.getfield 43, 3) := by decide +kernel
theorem dX5_isOld_7 : decode cX5_isOld 7 = .ok (.iload_n 1, 1) := by decide +kernel
theorem dX5_isOld_8 : decode cX5_isOld 8 = .ok (.iaload, 1) := by decide +kernel
theorem dX5_isOld_9 : decode cX5_isOld 9 = .ok (.iconst 1, 1) := by decide +kernel
theorem dX5_isOld_10 : decode cX5_isOld 10 = .ok (.isub, 1) := by decide +kernel
theorem dX5_isOld_11 : decode cX5_isOld 11 = .ok (.istore 6, 2) := by decide +kernel
theorem dX5_isOld_13 : decode cX5_isOld 13 = .ok (.iload 6, 2) := by decide +kernel
theorem dX5_isOld_15 : decode cX5_isOld 15 = .ok (.aload_n 0, 1) := by decide +kernel
theorem dX5_isOld_16 : decode cX5_isOld 16 = .ok (.getfield 72, 3) := by decide +kernel
theorem dX5_isOld_19 : decode cX5_isOld 19 = .ok (.if_icmp .ge 108, 3) := by decide +kernel
theorem dX5_isOld_22 : decode cX5_isOld 22 = .ok (.aload_n 0, 1) := by decide +kernel
theorem dX5_isOld_23 : decode cX5_isOld 23 = .ok (.getfield 43, 3) := by decide +kernel
theorem dX5_isOld_26 : decode cX5_isOld 26 = .ok (.iload_n 1, 1) := by decide +kernel
theorem dX5_isOld_27 : decode cX5_isOld 27 = .ok (.iaload, 1) := by decide +kernel
theorem dX5_isOld_28 : decode cX5_isOld 28 = .ok (.ifCond .le 99, 3) := by decide +kernel
theorem dX5_isOld_31 : decode cX5_isOld 31 = .ok (.iload 5, 2) := by decide +kernel
theorem dX5_isOld_33 : decode cX5_isOld 33 = .ok (.ifCond .ne 94, 3) := by decide +kernel
theorem dX5_isOld_36 : decode cX5_isOld 36 = .ok (.aload_n 0, 1) := by decide +kernel
theorem dX5_isOld_37 : decode cX5_isOld 37 = .ok (.getfield 37, 3) := by decide +kernel
theorem dX5_isOld_40 : decode cX5_isOld 40 = .ok (.iload 6, 2) := by decide +kernel
theorem dX5_isOld_42 : decode cX5_isOld 42 = .ok (.iaload, 1) := by decide +kernel
theorem dX5_isOld_43 : decode cX5_isOld 43 = .ok (.iload_n 2, 1) := by decide +kernel
theorem dX5_isOld_44 : decode cX5_isOld 44 = .ok (.invokestatic 112, 3) := by decide +kernel
theorem dX5_isOld_47 : decode cX5_isOld 47 = .ok (.ifCond .ne 33, 3) := by decide +kernel
theorem dX5_isOld_50 : decode cX5_isOld 50 = .ok (.aload_n 0, 1) := by decide +kernel
theorem dX5_isOld_51 : decode cX5_isOld 51 = .ok (.getfield 40, 3) := by decide +kernel
theorem dX5_isOld_54 : decode cX5_isOld 54 = .ok (.iload 6, 2) := by decide +kernel
theorem dX5_isOld_56 : decode cX5_isOld 56 = .ok (.iaload, 1) := by decide +kernel
theorem dX5_isOld_57 : decode cX5_isOld 57 = .ok (.iconst (-1), 1) := by decide +kernel
theorem dX5_isOld_58 : decode cX5_isOld 58 = .ok (.if_icmp .eq 26, 3) := by decide +kernel
theorem dX5_isOld_61 : decode cX5_isOld 61 = .ok (.aload_n 0, 1) := by decide +kernel
theorem dX5_isOld_62 : decode cX5_isOld 62 = .ok (.getfield 37, 3) := by decide +kernel
theorem dX5_isOld_65 : decode cX5_isOld 65 = .ok (.aload_n 0, 1) := by decide +kernel
theorem dX5_isOld_66 : decode cX5_isOld 66 = .ok (.getfield 40, 3) := by decide +kernel
theorem dX5_isOld_69 : decode cX5_isOld 69 = .ok (.iload 6, 2) := by decide +kernel
theorem dX5_isOld_71 : decode cX5_isOld 71 = .ok (.iaload, 1) := by decide +kernel
theorem dX5_isOld_72 : decode cX5_isOld 72 = .ok (.iaload, 1) := by decide +kernel
theorem dX5_isOld_73 : decode cX5_isOld 73 = .ok (.iload_n 2, 1) := by decide +kernel
theorem dX5_isOld_74 : decode cX5_isOld 74 = .ok (.invokestatic 112, 3) := by decide +kernel
theorem dX5_isOld_77 : decode cX5_isOld 77 = .ok (.ifCond .eq 7, 3) := by decide +kernel
theorem dX5_isOld_80 : decode cX5_isOld 80 = .ok (.iconst 1, 1) := by decide +kernel
theorem dX5_isOld_81 : decode cX5_isOld 81 = .ok (.goto 4, 3) := by decide +kernel
theorem dX5_isOld_84 : decode cX5_isOld 84 = .ok (.iconst 0, 1) := by decide +kernel
theorem dX5_isOld_85 : decode cX5_isOld 85 = .ok (.istore 7, 2) := by decide +kernel
theorem dX5_isOld_87 : decode cX5_isOld 87 = .ok (.iload 7, 2) := by decide +kernel
theorem dX5_isOld_89 : decode cX5_isOld 89 = .ok (.ifCond .eq 29, 3) := by decide +kernel
theorem dX5_isOld_92 : decode cX5_isOld 92 = .ok (.aload_n 0, 1) := by decide +kernel
theorem dX5_isOld_93 : decode cX5_isOld 93 = .ok (.aload_n 0, 1) := by decide +kernel
theorem dX5_isOld_94 : decode cX5_isOld 94 = .ok (.getfield 37, 3) := by decide +kernel
theorem dX5_isOld_97 : decode cX5_isOld 97 = .ok (.iload 6, 2) := by decide +kernel
theorem dX5_isOld_99 : decode cX5_isOld 99 = .ok (.iaload, 1) := by decide +kernel
theorem dX5_isOld_100 : decode cX5_isOld 100 = .ok (.sipush 1000, 3) := by decide +kernel
theorem dX5_isOld_103 : decode cX5_isOld 103 = .ok (.idiv, 1) := by decide +kernel
theorem dX5_isOld_104 : decode cX5_isOld 104 = .ok (.iload_n 2, 1) := by decide +kernel
theorem dX5_isOld_105 : decode cX5_isOld 105 = .ok (.iload_n 3, 1) := by decide +kernel
theorem dX5_isOld_106 : decode cX5_isOld 106 = .ok (.iload 4, 2) := by decide +kernel
theorem dX5_isOld_108 : decode cX5_isOld 108 = .ok (.invokevirtual 115, 3) := by decide +kernel
theorem dX5_isOld_111 : decode cX5_isOld 111 = .ok (.ifCond .eq 7, 3) := by decide +kernel
theorem dX5_isOld_114 : decode cX5_isOld 114 = .ok (.iconst 1, 1) := by decide +kernel
theorem dX5_isOld_115 : decode cX5_isOld 115 = .ok (.goto 4, 3) := by decide +kernel
theorem dX5_isOld_118 : decode cX5_isOld 118 = .ok (.iconst 0, 1) := by decide +kernel
theorem dX5_isOld_119 : decode cX5_isOld 119 = .ok (.istore 5, 2) := by decide +kernel
theorem dX5_isOld_121 : decode cX5_isOld 121 = .ok (.iinc 6 1, 3) := by decide +kernel
theorem dX5_isOld_124 : decode cX5_isOld 124 = .ok (.goto (-111), 3) := by decide +kernel
theorem dX5_isOld_127 : decode cX5_isOld 127 = .ok (.iload 5, 2) := by decide +kernel
theorem dX5_isOld_129 : decode cX5_isOld 129 = .ok (.ireturn, 1) := by decide +kernel
theorem dX5_isStale_0 : decode cX5_isStale 0 = .ok (.aload_n 0, 1) := by decide +kernel
theorem dX5_isStale_1 : decode cX5_isStale 1 = .ok (.iload_n 1, 1) := by decide +kernel
theorem dX5_isStale_2 : decode cX5_isStale 2 = .ok (.iload_n 2, 1) := by decide +kernel
theorem dX5_isStale_3 : decode cX5_isStale 3 = .ok (.iload_n 3, 1) := by decide +kernel
theorem dX5_isStale_4 : decode cX5_isStale 4 = .ok (.invokevirtual 123, 3) := by decide +kernel
theorem dX5_isStale_7 : decode cX5_isStale 7 = .ok (.istore 4, 2) := by decide +kernel
theorem dX5_isStale_9 : decode cX5_isStale 9 = .ok (.iload 4, 2) := by decide +kernel
theorem dX5_isStale_11 : decode cX5_isStale 11 = .ok (.iconst (-1), 1) := by decide +kernel
theorem dX5_isStale_12 : decode cX5_isStale 12 = .ok (.if_icmp .eq 19, 3) := by decide +kernel
theorem dX5_isStale_15 : decode cX5_isStale 15 = .ok (.aload_n 0, 1) := by decide +kernel
theorem dX5_isStale_16 : decode cX5_isStale 16 = .ok (.iload 4, 2) := by decide +kernel
theorem dX5_isStale_18 : decode cX5_isStale 18 = .ok (.iload_n 1, 1) := by decide +kernel
theorem dX5_isStale_19 : decode cX5_isStale 19 = .ok (.iload_n 2, 1) := by decide +kernel
theorem dX5_isStale_20 : decode cX5_isStale 20 = .ok (.iload_n 3, 1) := by decide +kernel
theorem dX5_isStale_21 : decode cX5_isStale 21 = .ok (.invokevirtual 130, 3) := by decide +kernel
theorem dX5_isStale_24 : decode cX5_isStale 24 = .ok (.ifCond .eq 7, 3) := by decide +kernel
theorem dX5_isStale_27 : decode cX5_isStale 27 = .ok (.iconst 1, 1) := by decide +kernel
theorem dX5_isStale_28 : decode cX5_isStale 28 = .ok (.goto 4, 3) := by decide +kernel
theorem dX5_isStale_31 : decode cX5_isStale 31 = .ok (.iconst 0, 1) := by decide +kernel
theorem dX5_isStale_32 : decode cX5_isStale 32 = .ok (.ireturn, 1) := by decide +kernel
theorem dX5_refresh_0 : decode cX5_refresh 0 = .ok (.aload_n 0, 1) := by decide +kernel
theorem dX5_refresh_1 : decode cX5_refresh 1 = .ok (.iconst 0, 1) := by decide +kernel
theorem dX5_refresh_2 : decode cX5_refresh 2 = .ok (.putfield 61, 3) := by decide +kernel
theorem dX5_refresh_5 : decode cX5_refresh 5 = .ok (.iconst 0, 1) := by decide +kernel
theorem dX5_refresh_6 : decode cX5_refresh 6 = .ok (.istore_n 1, 1) := by decide +kernel
theorem dX5_refresh_7 : decode cX5_refresh 7 = .ok (.iconst 0, 1) := by decide +kernel
theorem dX5_refresh_8 : decode cX5_refresh 8 = .ok (.istore_n 2, 1) := by decide +kernel
theorem dX5_refresh_9 : decode cX5_refresh 9 = .ok (.iload_n 2, 1) := by decide +kernel
theorem dX5_refresh_10 : decode cX5_refresh 10 = .ok (.iconst 5, 1) := by decide +kernel
theorem dX5_refresh_11 : decode cX5_refresh 11 = .ok (.if_icmp .ge 18, 3) := by decide +kernel
theorem dX5_refresh_14 : decode cX5_refresh 14 = .ok (.iload_n 1, 1) := by decide +kernel
theorem dX5_refresh_15 : decode cX5_refresh 15 = .ok (.aload_n 0, 1) := by decide +kernel
theorem dX5_refresh_16 : decode cX5_refresh 16 = .ok (.iload_n 2, 1) := by decide +kernel
theorem dX5_refresh_17 : decode cX5_refresh 17 = .ok (.iconst 1, 1) := by decide +kernel
theorem dX5_refresh_18 : decode cX5_refresh 18 = .ok (.invokevirtual 133, 3) := by decide +kernel
theorem dX5_refresh_21 : decode cX5_refresh 21 = .ok (.iadd, 1) := by decide +kernel
theorem dX5_refresh_22 : decode cX5_refresh 22 = .ok (.istore_n 1, 1) := by decide +kernel
theorem dX5_refresh_23 : decode cX5_refresh 23 = .ok (.iinc 2 1, 3) := by decide +kernel
theorem dX5_refresh_26 : decode cX5_refresh 26 = .ok (.goto (-17), 3) := by decide +kernel
theorem dX5_refresh_29 : decode cX5_refresh 29 = .ok (.iload_n 1, 1) := by decide +kernel
theorem dX5_refresh_30 : decode cX5_refresh 30 = .ok (.ireturn, 1) := by decide +kernel
theorem dX5_staleTiles_0 : decode cX5_staleTiles 0 = .ok (.aload_n 0, 1) := by decide +kernel
theorem dX5_staleTiles_1 : decode cX5_staleTiles 1 = .ok (.iload_n 1, 1) := by decide +kernel
theorem dX5_staleTiles_2 : decode cX5_staleTiles 2 = .ok (.iconst 0, 1) := by decide +kernel
theorem dX5_staleTiles_3 : decode cX5_staleTiles 3 = .ok (.iconst 4, 1) := by decide +kernel
theorem dX5_staleTiles_4 : decode cX5_staleTiles 4 = .ok (.invokestatic 65, 3) := by decide +kernel
theorem dX5_staleTiles_7 : decode cX5_staleTiles 7 = .ok (.invokevirtual 83, 3) := by decide +kernel
theorem dX5_staleTiles_10 : decode cX5_staleTiles 10 = .ok (.ifCond .eq 12, 3) := by decide +kernel
theorem dX5_staleTiles_13 : decode cX5_staleTiles 13 = .ok (.aload_n 0, 1) := by decide +kernel
theorem dX5_staleTiles_14 : decode cX5_staleTiles 14 = .ok (.iload_n 1, 1) := by decide +kernel
theorem dX5_staleTiles_15 : decode cX5_staleTiles 15 = .ok (.iconst 0, 1) := by decide +kernel
theorem dX5_staleTiles_16 : decode cX5_staleTiles 16 = .ok (.invokevirtual 133, 3) := by decide +kernel
theorem dX5_staleTiles_19 : decode cX5_staleTiles 19 = .ok (.goto 4, 3) := by decide +kernel
theorem dX5_staleTiles_22 : decode cX5_staleTiles 22 = .ok (.iconst 0, 1) := by decide +kernel
theorem dX5_staleTiles_23 : decode cX5_staleTiles 23 = .ok (.ireturn, 1) := by decide +kernel
theorem dX5_stales_0 : decode cX5_stales 0 = .ok (.iconst 1, 1) := by decide +kernel
theorem dX5_stales_1 : decode cX5_stales 1 = .ok (.iload_n 1, 1) := by decide +kernel
theorem dX5_stales_2 : decode cX5_stales 2 = .ok (.ishl, 1) := by decide +kernel
theorem dX5_stales_3 : decode cX5_stales 3 = .ok (.istore_n 3, 1) := by decide +kernel
theorem dX5_stales_4 : decode cX5_stales 4 = .ok (.iconst 0, 1) := by decide +kernel
theorem dX5_stales_5 : decode cX5_stales 5 = .ok (.istore 4, 2) := by decide +kernel
theorem dX5_stales_7 : decode cX5_stales 7 = .ok (.iconst 0, 1) := by decide +kernel
theorem dX5_stales_8 : decode cX5_stales 8 = .ok (.istore 5, 2) := by decide +kernel
theorem dX5_stales_10 : decode cX5_stales 10 = .ok (.iload 5, 2) := by decide +kernel
theorem dX5_stales_12 : decode cX5_stales 12 = .ok (.iload_n 3, 1) := by decide +kernel
theorem dX5_stales_13 : decode cX5_stales 13 = .ok (.iload_n 3, 1) := by decide +kernel
theorem dX5_stales_14 : decode cX5_stales 14 = .ok (.imul, 1) := by decide +kernel
theorem dX5_stales_15 : decode cX5_stales 15 = .ok (.if_icmp .ge 77, 3) := by decide +kernel
theorem dX5_stales_18 : decode cX5_stales 18 = .ok (.iload_n 3, 1) := by decide +kernel
theorem dX5_stales_19 : decode cX5_stales 19 = .ok (.iload_n 3, 1) := by decide +kernel
theorem dX5_stales_20 : decode cX5_stales 20 = .ok (.imul, 1) := by decide +kernel
theorem dX5_stales_21 : decode cX5_stales 21 = .ok (.iconst 1, 1) := by decide +kernel
theorem dX5_stales_22 : decode cX5_stales 22 = .ok (.isub, 1) := by decide +kernel
theorem dX5_stales_23 : decode cX5_stales 23 = .ok (.iconst 3, 1) := by decide +kernel
theorem dX5_stales_24 : decode cX5_stales 24 = .ok (.idiv, 1) := by decide +kernel
theorem dX5_stales_25 : decode cX5_stales 25 = .ok (.iload 5, 2) := by decide +kernel
theorem dX5_stales_27 : decode cX5_stales 27 = .ok (.iadd, 1) := by decide +kernel
theorem dX5_stales_28 : decode cX5_stales 28 = .ok (.istore 6, 2) := by decide +kernel
theorem dX5_stales_30 : decode cX5_stales 30 = .ok (.aload_n 0, 1) := by decide +kernel
theorem dX5_stales_31 : decode cX5_stales 31 = .ok (.iload 6, 2) := by decide +kernel
theorem dX5_stales_33 : decode cX5_stales 33 = .ok (.iload_n 1, 1) := by decide +kernel
theorem dX5_stales_34 : decode cX5_stales 34 = .ok (.iload 5, 2) := by decide +kernel
theorem dX5_stales_36 : decode cX5_stales 36 = .ok (.iload_n 3, 1) := by decide +kernel
theorem dX5_stales_37 : decode cX5_stales 37 = .ok (.irem, 1) := by decide +kernel
theorem dX5_stales_38 : decode cX5_stales 38 = .ok (.iload 5, 2) := by decide +kernel
theorem dX5_stales_40 : decode cX5_stales 40 = .ok (.iload_n 3, 1) := by decide +kernel
theorem dX5_stales_41 : decode cX5_stales 41 = .ok (.idiv, 1) := by decide +kernel
theorem dX5_stales_42 : decode cX5_stales 42 = .ok (.invokevirtual 130, 3) := by decide +kernel
theorem dX5_stales_45 : decode cX5_stales 45 = .ok (.istore 7, 2) := by decide +kernel
theorem dX5_stales_47 : decode cX5_stales 47 = .ok (.iload 4, 2) := by decide +kernel
theorem dX5_stales_49 : decode cX5_stales 49 = .ok (.iload 7, 2) := by decide +kernel
theorem dX5_stales_51 : decode cX5_stales 51 = .ok (.ifCond .eq 7, 3) := by decide +kernel
theorem dX5_stales_54 : decode cX5_stales 54 = .ok (.iconst 1, 1) := by decide +kernel
theorem dX5_stales_55 : decode cX5_stales 55 = .ok (.goto 4, 3) := by decide +kernel
theorem dX5_stales_58 : decode cX5_stales 58 = .ok (.iconst 0, 1) := by decide +kernel
theorem dX5_stales_59 : decode cX5_stales 59 = .ok (.iadd, 1) := by decide +kernel
theorem dX5_stales_60 : decode cX5_stales 60 = .ok (.istore 4, 2) := by decide +kernel
theorem dX5_stales_62 : decode cX5_stales 62 = .ok (.iload 7, 2) := by decide +kernel
theorem dX5_stales_64 : decode cX5_stales 64 = .ok (.ifCond .eq 22, 3) := by decide +kernel
theorem dX5_stales_67 : decode cX5_stales 67 = .ok (.iload_n 2, 1) := by decide +kernel
theorem dX5_stales_68 : decode cX5_stales 68 = .ok (.ifCond .eq 18, 3) := by decide +kernel
theorem dX5_stales_71 : decode cX5_stales 71 = .ok (.aload_n 0, 1) := by decide +kernel
theorem dX5_stales_72 : decode cX5_stales 72 = .ok (.iload 6, 2) := by decide +kernel
theorem dX5_stales_74 : decode cX5_stales 74 = .ok (.iload_n 1, 1) := by decide +kernel
theorem dX5_stales_75 : decode cX5_stales 75 = .ok (.iload 5, 2) := by decide +kernel
theorem dX5_stales_77 : decode cX5_stales 77 = .ok (.iload_n 3, 1) := by decide +kernel
theorem dX5_stales_78 : decode cX5_stales 78 = .ok (.irem, 1) := by decide +kernel
theorem dX5_stales_79 : decode cX5_stales 79 = .ok (.iload 5, 2) := by decide +kernel
theorem dX5_stales_81 : decode cX5_stales 81 = .ok (.iload_n 3, 1) := by decide +kernel
theorem dX5_stales_82 : decode cX5_stales 82 = .ok (.idiv, 1) := by decide +kernel
theorem dX5_stales_83 : decode cX5_stales 83 = .ok (.invokevirtual 127, 3) := by decide +kernel
theorem dX5_stales_86 : decode cX5_stales 86 = .ok (.iinc 5 1, 3) := by decide +kernel
theorem dX5_stales_89 : decode cX5_stales 89 = .ok (.goto (-79), 3) := by decide +kernel
theorem dX5_stales_92 : decode cX5_stales 92 = .ok (.iload 4, 2) := by decide +kernel
theorem dX5_stales_94 : decode cX5_stales 94 = .ok (.ireturn, 1) := by decide +kernel
theorem ke_X5_isOld : wl_V RX5 yX5_isOld cX5_isOld 8 (some .boolean) 4 := ⟨wd_c_X5_isOld, wd_i_X5_isOld, wd_s_X5_isOld, wd_n_X5, by decide, by decide +kernel⟩
set_option maxHeartbeats 4000000 in
set_option maxRecDepth 100000 in
theorem m_X5_isOld (l : Launch) (D : va_G) (cI : ClassId) (o : Nat) (a : Nat → Nat) (mm : q_Mem) (t : Nat) (z x y : Int32) (ht : t < 341) (hI : Inv mm) : rc_C l yX5_isOld cX5_isOld 8 (some .boolean) 1 25 [.ref o, .int (nI t), .int z, .int x, .int y] (mo_B D cI o a mm) (fun r => r = if sp_old mm t z x y = true then 1 else 0) := by
  refine rc_of (by decide) (Nat.le_of_ble_eq_true rfl) ?_
  intro p e s m args below meth c hx hb hr hF hlk hB ls hl
  obtain ⟨hM, hK⟩ := hB
  have hl : lv_has ls 8 [(0, .ref o), (1, .int (nI t)), (2, .int z), (3, .int x), (4, .int y)] := hl
  have hf : (0 : Nat) ≤ 0 ∧ (0 : Nat) ≤ 0 := ⟨Nat.le_refl 0, Nat.le_refl 0⟩
  obtain ⟨n, hn, hn1⟩ := hI.S ht
  have hKK := hI.K512
  have h40 := hI.W40
  have hE := old_eq (z := z) (x := x) (y := y) hn1 (by omega)
  rcases Nat.eq_zero_or_pos n with hz | hz
  · skip
    subst hz
    refine lv_iconst (v := 0) hx hb dX5_isOld_0 (by decide) ?_
    refine lv_istore (lv' := [(5, .int 0), (0, .ref o), (1, .int (nI t)), (2, .int z), (3, .int x), (4, .int y)]) hx hb dX5_isOld_1 hl (by decide) rfl (fun ls hl => ?_)
    refine lv_aload_n hx hb dX5_isOld_3 rfl (lv_at hl 1 rfl) ?_
    refine mo_get hF hK hM 13 (by decide) wd_f_X5_43 rfl dX5_isOld_4 ?_
    refine lv_iload_n hx hb dX5_isOld_7 rfl (lv_at hl 2 rfl) ?_
    refine mo_ald hF hK hM 13 t (by decide) rfl (by exact ht) dX5_isOld_8 ?_
    refine lv_iconst (v := 1) hx hb dX5_isOld_9 (by decide) ?_
    refine lv_isub hx hb dX5_isOld_10 ?_
    refine bo_to (v := (-1)) (by rw [hn1]; rfl) ?_
    refine lv_istore (lv' := [(6, .int (-1)), (5, .int 0), (0, .ref o), (1, .int (nI t)), (2, .int z), (3, .int x), (4, .int y)]) hx hb dX5_isOld_11 hl (by decide) rfl (fun ls hl => ?_)
    refine lv_iload hx hb dX5_isOld_13 (lv_at hl 0 rfl) ?_
    refine lv_aload_n hx hb dX5_isOld_15 rfl (lv_at hl 2 rfl) ?_
    refine mo_get hF hK hM 10 (by decide) wd_f_X5_72 rfl dX5_isOld_16 ?_
    refine lv_icmp_ge (tgt := 127) hx hb dX5_isOld_19 (by decide) (fun c1 => ?_) (fun c1 => ?_)
    · skip
      exact absurd c1 (by rw [hI.K]; exact nI_nlem1 (by omega))
    · skip
      refine lv_aload_n hx hb dX5_isOld_22 rfl (lv_at hl 2 rfl) ?_
      refine mo_get hF hK hM 13 (by decide) wd_f_X5_43 rfl dX5_isOld_23 ?_
      refine lv_iload_n hx hb dX5_isOld_26 rfl (lv_at hl 3 rfl) ?_
      refine mo_ald hF hK hM 13 t (by decide) rfl (by exact ht) dX5_isOld_27 ?_
      refine lv_if_le (tgt := 127) hx hb dX5_isOld_28 (by decide) (fun c2 => ?_) (fun c2 => ?_)
      · skip
        refine lv_iload hx hb dX5_isOld_127 (lv_at hl 1 rfl) ?_
        exact rc_zret hx hb hr hlk (by first | exact Or.inl rfl | exact bo_bit rfl) (by rw [hE]; rfl) dX5_isOld_129
      · skip
        exact absurd (show mm 13 t ≤ 0 by rw [hn1]; decide) c2
  · skip
    refine lv_iconst (v := 0) hx hb dX5_isOld_0 (by decide) ?_
    refine lv_istore (lv' := [(5, .int 0), (0, .ref o), (1, .int (nI t)), (2, .int z), (3, .int x), (4, .int y)]) hx hb dX5_isOld_1 hl (by decide) rfl (fun ls hl => ?_)
    refine lv_aload_n hx hb dX5_isOld_3 rfl (lv_at hl 1 rfl) ?_
    refine mo_get hF hK hM 13 (by decide) wd_f_X5_43 rfl dX5_isOld_4 ?_
    refine lv_iload_n hx hb dX5_isOld_7 rfl (lv_at hl 2 rfl) ?_
    refine mo_ald hF hK hM 13 t (by decide) rfl (by exact ht) dX5_isOld_8 ?_
    refine lv_iconst (v := 1) hx hb dX5_isOld_9 (by decide) ?_
    refine lv_isub hx hb dX5_isOld_10 ?_
    refine bo_to (v := (nI (n - 1))) (by rw [hn1]; exact nI_m1 hz) ?_
    refine lv_istore (lv' := [(6, .int (nI (n - 1))), (5, .int 0), (0, .ref o), (1, .int (nI t)), (2, .int z), (3, .int x), (4, .int y)]) hx hb dX5_isOld_11 hl (by decide) rfl (fun ls hl => ?_)
    have h0 : (0 : Int32) = (if an_y (sp_oldp mm z x y n) (n - 1) = true then 1 else 0) := (if_neg an_y_none).symm
    rw [h0] at hl
    refine bo_loop (σ := Nat) (μ := fun (k : Nat) => sp_K mm - k) (I := fun (k : Nat) (H : Heap) (locs : List Loc) (ls : Array Slot) => H = s.heap ∧ locs = [] ∧ lv_has ls 8 [(5, .int (if an_y (sp_oldp mm z x y n) k = true then 1 else 0)), (6, .int (nI k)), (0, .ref o), (1, .int (nI t)), (2, .int z), (3, .int x), (4, .int y)] ∧ (n - 1 ≤ k) ∧ (k ≤ sp_K mm)) (n - 1) ⟨rfl, rfl, lv_sub hl [1, 0, 2, 3, 4, 5, 6] rfl, Nat.le_refl _, by omega⟩ ?_
    intro x13 H locs ls hI13 ih13
    obtain ⟨k, ex13⟩ : ∃ z, z = x13 := ⟨_, rfl⟩
    subst ex13
    obtain ⟨rfl, rfl, hl, hp1, hp2⟩ := hI13
    refine lv_iload hx hb dX5_isOld_13 (lv_at hl 1 rfl) ?_
    refine lv_aload_n hx hb dX5_isOld_15 rfl (lv_at hl 2 rfl) ?_
    refine mo_get hF hK hM 10 (by decide) wd_f_X5_72 rfl dX5_isOld_16 ?_
    refine lv_icmp_ge (tgt := 127) hx hb dX5_isOld_19 (by decide) (fun c1 => ?_) (fun c1 => ?_)
    · skip
      have hk : k = sp_K mm := by rw [hI.K] at c1; have := (nI_leI (by omega) (by omega)).mp c1; omega
      refine lv_iload hx hb dX5_isOld_127 (lv_at hl 0 rfl) ?_
      exact rc_zret hx hb hr hlk (by first | exact Or.inl rfl | exact bo_bit rfl) (by rw [hE, decide_eq_true hz, Bool.true_and, hk]) dX5_isOld_129
    · skip
      have hk : k < sp_K mm := by rw [hI.K] at c1; have : ¬ sp_K mm ≤ k := fun q => c1 ((nI_leI (by omega) (by omega)).mpr q); omega
      refine lv_aload_n hx hb dX5_isOld_22 rfl (lv_at hl 2 rfl) ?_
      refine mo_get hF hK hM 13 (by decide) wd_f_X5_43 rfl dX5_isOld_23 ?_
      refine lv_iload_n hx hb dX5_isOld_26 rfl (lv_at hl 3 rfl) ?_
      refine mo_ald hF hK hM 13 t (by decide) rfl (by exact ht) dX5_isOld_27 ?_
      refine lv_if_le (tgt := 127) hx hb dX5_isOld_28 (by decide) (fun c2 => ?_) (fun c2 => ?_)
      · skip
        exact absurd c2 (by rw [hn1]; exact nI_nle hz (by omega))
      · skip
        refine lv_iload hx hb dX5_isOld_31 (lv_at hl 0 rfl) ?_
        refine bo_ne (tgt := 127) rfl hx hb dX5_isOld_33 (by decide) (fun c3 => ?_) (fun c3 => ?_)
        · skip
          refine lv_iload hx hb dX5_isOld_127 (lv_at hl 0 rfl) ?_
          exact rc_zret hx hb hr hlk (by first | exact Or.inl rfl | exact bo_bit rfl) (by rw [hE, decide_eq_true hz, Bool.true_and, an_y_mono hp2 c3, c3]) dX5_isOld_129
        · skip
          obtain ⟨wi, hwi, hvw⟩ := hI.VW hk
          refine bo_cut (ls := ls) (tgt := 85) (E := if sp_sh (mm 11 k) z ∨ (¬ mm 12 k = -1 ∧ sp_sh (mm 11 (sp_A mm k)) z) then 1 else 0) (rest := []) (fun vs evs => ?_) (fun J85 => ?_)
          · skip
            refine lv_istore (lv' := [(7, .int vs), (5, .int (if an_y (sp_oldp mm z x y n) k = true then 1 else 0)), (6, .int (nI k)), (0, .ref o), (1, .int (nI t)), (2, .int z), (3, .int x), (4, .int y)]) hx hb dX5_isOld_85 hl (by decide) rfl (fun ls hl => ?_)
            refine bo_cut (ls := ls) (tgt := 119) (E := (if an_y (sp_oldp mm z x y n) (k + 1) = true then 1 else 0)) (rest := []) (fun vo evo => ?_) (fun J119 => ?_)
            · skip
              subst evo
              refine lv_istore (lv' := [(5, .int (if an_y (sp_oldp mm z x y n) (k + 1) = true then 1 else 0)), (7, .int vs), (6, .int (nI k)), (0, .ref o), (1, .int (nI t)), (2, .int z), (3, .int x), (4, .int y)]) hx hb dX5_isOld_119 hl (by decide) rfl (fun ls hl => ?_)
              refine lv_iinc (v := (nI (k + 1))) (lv' := [(6, .int (nI (k + 1))), (5, .int (if an_y (sp_oldp mm z x y n) (k + 1) = true then 1 else 0)), (7, .int vs), (0, .ref o), (1, .int (nI t)), (2, .int z), (3, .int x), (4, .int y)]) hx hb dX5_isOld_121 hl (k := 2) rfl (nI_1 k) (by decide) rfl (fun ls hl => ?_)
              refine lv_goto (tgt := 13) hx hb dX5_isOld_124 (by decide) ?_
              exact ih13 (k + 1) _ _ _ (by show sp_K mm - (k + 1) < sp_K mm - k; omega) ⟨rfl, rfl, lv_sub hl [1, 0, 3, 4, 5, 6, 7] rfl, by omega, by omega⟩
            · skip
              refine lv_iload hx hb dX5_isOld_87 (lv_at hl 0 rfl) ?_
              refine bo_eq (tgt := 118) evs hx hb dX5_isOld_89 (by decide) (fun c7 => ?_) (fun c7 => ?_)
              · skip
                refine lv_iconst (v := 0) hx hb dX5_isOld_118 (by decide) ?_
                exact J119 _ (by first | exact old_s1 hz c3 hp1 hvw (by omega) ⟨c7, c8⟩ | exact old_s0 c3 hvw (by omega) (fun q => c7 q.1) | exact old_s0 c3 hvw (by omega) (fun q => c8 q.2))
              · skip
                refine lv_aload_n hx hb dX5_isOld_92 rfl (lv_at hl 3 rfl) ?_
                refine lv_aload_n hx hb dX5_isOld_93 rfl (lv_at hl 3 rfl) ?_
                refine mo_get hF hK hM 11 (by decide) wd_f_X5_37 rfl dX5_isOld_94 ?_
                refine lv_iload hx hb dX5_isOld_97 (lv_at hl 2 rfl) ?_
                refine mo_ald hF hK hM 11 k (by decide) rfl (show k < 4200 by omega) dX5_isOld_99 ?_
                refine lv_sipush (v := 1000) hx hb dX5_isOld_100 (by decide) ?_
                refine lv_idiv hx hb dX5_isOld_103 (by decide) ?_
                refine bo_to (v := (nI wi)) (hvw) ?_
                refine lv_iload_n hx hb dX5_isOld_104 rfl (lv_at hl 5 rfl) ?_
                refine lv_iload_n hx hb dX5_isOld_105 rfl (lv_at hl 6 rfl) ?_
                refine lv_iload hx hb dX5_isOld_106 (lv_at hl 7 rfl) ?_
                refine rc_V (fr := 0) (lo := 0) (As := [.int (nI wi), .int z, .int x, .int y]) (rest := []) hF (m_X5_isIn l D cI o a mm wi z x y (by omega)) ke_X5_isIn wd_l_X5_115 (by decide) mo_blind (fun U hU hv => ⟨by rw [hU]; exact hM, hK.moved hv⟩) (mo_recv hK hM) rfl hl.1 rfl (Nat.le_of_ble_eq_true rfl) dX5_isOld_108 hf (fun r3 hr3 => ?_)
                refine bo_eq (tgt := 118) hr3 hx hb dX5_isOld_111 (by decide) (fun c8 => ?_) (fun c8 => ?_)
                · skip
                  refine lv_iconst (v := 0) hx hb dX5_isOld_118 (by decide) ?_
                  exact J119 _ (by first | exact old_s1 hz c3 hp1 hvw (by omega) ⟨c7, c8⟩ | exact old_s0 c3 hvw (by omega) (fun q => c7 q.1) | exact old_s0 c3 hvw (by omega) (fun q => c8 q.2))
                · skip
                  refine lv_iconst (v := 1) hx hb dX5_isOld_114 (by decide) ?_
                  refine lv_goto (tgt := 119) hx hb dX5_isOld_115 (by decide) ?_
                  exact J119 _ (by first | exact old_s1 hz c3 hp1 hvw (by omega) ⟨c7, c8⟩ | exact old_s0 c3 hvw (by omega) (fun q => c7 q.1) | exact old_s0 c3 hvw (by omega) (fun q => c8 q.2))
          · skip
            refine lv_aload_n hx hb dX5_isOld_36 rfl (lv_at hl 2 rfl) ?_
            refine mo_get hF hK hM 11 (by decide) wd_f_X5_37 rfl dX5_isOld_37 ?_
            refine lv_iload hx hb dX5_isOld_40 (lv_at hl 1 rfl) ?_
            refine mo_ald hF hK hM 11 k (by decide) rfl (show k < 4200 by omega) dX5_isOld_42 ?_
            refine lv_iload_n hx hb dX5_isOld_43 rfl (lv_at hl 4 rfl) ?_
            refine rc_S (fr := 0) (lo := 0) (As := [.int (mm 11 k), .int z]) (rest := []) hF (m_X5_isShown l (mm 11 k) z) ke_X5_isShown wd_l_X5_112 (by decide) bl_true (fun _ _ _ => trivial) rfl hl.1 rfl (Nat.le_of_ble_eq_true rfl) dX5_isOld_44 hf (fun r4 hr4 => ?_)
            refine bo_ne (tgt := 80) hr4 hx hb dX5_isOld_47 (by decide) (fun c4 => ?_) (fun c4 => ?_)
            · skip
              refine lv_iconst (v := 1) hx hb dX5_isOld_80 (by decide) ?_
              refine lv_goto (tgt := 85) hx hb dX5_isOld_81 (by decide) ?_
              exact J85 _ (by first | exact bo_p (Or.inl c4) | exact bo_p (Or.inr ⟨c5, c6⟩) | exact bo_n (fun q => q.elim c4 (fun q => q.1 c5)) | exact bo_n (fun q => q.elim c4 (fun q => c6 q.2)))
            · skip
              refine lv_aload_n hx hb dX5_isOld_50 rfl (lv_at hl 2 rfl) ?_
              refine mo_get hF hK hM 12 (by decide) wd_f_X5_40 rfl dX5_isOld_51 ?_
              refine lv_iload hx hb dX5_isOld_54 (lv_at hl 1 rfl) ?_
              refine mo_ald hF hK hM 12 k (by decide) rfl (show k < 4200 by omega) dX5_isOld_56 ?_
              refine lv_iconst (v := (-1)) hx hb dX5_isOld_57 (by decide) ?_
              refine lv_icmp_eq (tgt := 84) hx hb dX5_isOld_58 (by decide) (fun c5 => ?_) (fun c5 => ?_)
              · skip
                refine lv_iconst (v := 0) hx hb dX5_isOld_84 (by decide) ?_
                exact J85 _ (by first | exact bo_p (Or.inl c4) | exact bo_p (Or.inr ⟨c5, c6⟩) | exact bo_n (fun q => q.elim c4 (fun q => q.1 c5)) | exact bo_n (fun q => q.elim c4 (fun q => c6 q.2)))
              · skip
                have hA1 : mm 12 k = nI (sp_A mm k) ∧ sp_A mm k < 4200 := by rcases hI.A hk with ⟨a1, -⟩ | ⟨a1, a2, -⟩; exact absurd a1 c5; exact ⟨a1, by omega⟩
                refine lv_aload_n hx hb dX5_isOld_61 rfl (lv_at hl 2 rfl) ?_
                refine mo_get hF hK hM 11 (by decide) wd_f_X5_37 rfl dX5_isOld_62 ?_
                refine lv_aload_n hx hb dX5_isOld_65 rfl (lv_at hl 2 rfl) ?_
                refine mo_get hF hK hM 12 (by decide) wd_f_X5_40 rfl dX5_isOld_66 ?_
                refine lv_iload hx hb dX5_isOld_69 (lv_at hl 1 rfl) ?_
                refine mo_ald hF hK hM 12 k (by decide) rfl (show k < 4200 by omega) dX5_isOld_71 ?_
                refine bo_to (v := (nI (sp_A mm k))) (hA1.1) ?_
                refine mo_ald hF hK hM 11 (sp_A mm k) (by decide) rfl (by exact hA1.2) dX5_isOld_72 ?_
                refine lv_iload_n hx hb dX5_isOld_73 rfl (lv_at hl 4 rfl) ?_
                refine rc_S (fr := 0) (lo := 0) (As := [.int (mm 11 (sp_A mm k)), .int z]) (rest := []) hF (m_X5_isShown l (mm 11 (sp_A mm k)) z) ke_X5_isShown wd_l_X5_112 (by decide) bl_true (fun _ _ _ => trivial) rfl hl.1 rfl (Nat.le_of_ble_eq_true rfl) dX5_isOld_74 hf (fun r5 hr5 => ?_)
                refine bo_eq (tgt := 84) hr5 hx hb dX5_isOld_77 (by decide) (fun c6 => ?_) (fun c6 => ?_)
                · skip
                  refine lv_iconst (v := 0) hx hb dX5_isOld_84 (by decide) ?_
                  exact J85 _ (by first | exact bo_p (Or.inl c4) | exact bo_p (Or.inr ⟨c5, c6⟩) | exact bo_n (fun q => q.elim c4 (fun q => q.1 c5)) | exact bo_n (fun q => q.elim c4 (fun q => c6 q.2)))
                · skip
                  refine lv_iconst (v := 1) hx hb dX5_isOld_80 (by decide) ?_
                  refine lv_goto (tgt := 85) hx hb dX5_isOld_81 (by decide) ?_
                  exact J85 _ (by first | exact bo_p (Or.inl c4) | exact bo_p (Or.inr ⟨c5, c6⟩) | exact bo_n (fun q => q.elim c4 (fun q => q.1 c5)) | exact bo_n (fun q => q.elim c4 (fun q => c6 q.2)))
theorem ke_X5_isStale : wl_V RX5 yX5_isStale cX5_isStale 5 (some .boolean) 3 := ⟨wd_c_X5_isStale, wd_i_X5_isStale, wd_s_X5_isStale, wd_n_X5, by decide, by decide +kernel⟩
set_option maxHeartbeats 4000000 in
set_option maxRecDepth 100000 in
theorem m_X5_isStale (l : Launch) (D : va_G) (cI : ClassId) (o : Nat) (a : Nat → Nat) (mm : q_Mem) (hMD : mo_D o a) (z x y : Int32) (hI : Inv mm) : mo_Ci l yX5_isStale cX5_isStale 5 (some .boolean) 2 52 D cI o a mm [.int z, .int x, .int y] (fun r m1 => (r, m1) = sp_isst mm z x y) := by
  refine mo_ofQ (by decide) (Nat.le_of_ble_eq_true rfl) ?_
  intro p e s m args below meth c hx hb hr hF hlk hM hK hS ls hl
  have hA : ∀ q, mo_R o a q → mo_R o a q := fun _ h => h
  have hl : lv_has ls 5 [(0, .ref o), (1, .int z), (2, .int x), (3, .int y)] := hl
  have hf : (0 : Nat) ≤ 0 ∧ (0 : Nat) ≤ 0 := ⟨Nat.le_refl 0, Nat.le_refl 0⟩
  refine lv_aload_n hx hb dX5_isStale_0 rfl (lv_at hl 0 rfl) ?_
  refine lv_iload_n hx hb dX5_isStale_1 rfl (lv_at hl 1 rfl) ?_
  refine lv_iload_n hx hb dX5_isStale_2 rfl (lv_at hl 2 rfl) ?_
  refine lv_iload_n hx hb dX5_isStale_3 rfl (lv_at hl 3 rfl) ?_
  refine mo_iV (fr := 1) (lo := 22) (As := [.int z, .int x, .int y]) (rest := []) hF (m_X5_tileAt l D cI o a mm hMD z x y) ke_X5_tileAt wd_l_X5_123 (by decide) hK hM hS hA rfl hl.1 rfl (Nat.le_of_ble_eq_true rfl) dX5_isStale_4 hf (fun r1 mm2 H locs hr1 hM hS _ _ => ?_)
  by_cases cP : sp_tl z x y
  · skip
    rw [if_pos cP] at hr1
    obtain ⟨hr1, hr3⟩ := hr1
    subst hr1
    subst hr3
    have ht := sp_t_lt cP
    refine lv_istore (lv' := [(4, .int (nI (sp_t z x y))), (0, .ref o), (1, .int z), (2, .int x), (3, .int y)]) hx hb dX5_isStale_7 hl (by decide) rfl (fun ls hl => ?_)
    refine lv_iload hx hb dX5_isStale_9 (lv_at hl 0 rfl) ?_
    refine lv_iconst (v := (-1)) hx hb dX5_isStale_11 (by decide) ?_
    refine lv_icmp_eq (tgt := 31) hx hb dX5_isStale_12 (by decide) (fun c1 => ?_) (fun c1 => ?_)
    · skip
      exact absurd c1 (nI_nm1 (Nat.lt_trans ht (by decide)))
    · skip
      refine lv_aload_n hx hb dX5_isStale_15 rfl (lv_at hl 1 rfl) ?_
      refine lv_iload hx hb dX5_isStale_16 (lv_at hl 0 rfl) ?_
      refine lv_iload_n hx hb dX5_isStale_18 rfl (lv_at hl 2 rfl) ?_
      refine lv_iload_n hx hb dX5_isStale_19 rfl (lv_at hl 3 rfl) ?_
      refine lv_iload_n hx hb dX5_isStale_20 rfl (lv_at hl 4 rfl) ?_
      refine rc_V (fr := 1) (lo := 25) (As := [.int (nI (sp_t z x y)), .int z, .int x, .int y]) (rest := []) hF (m_X5_isOld l D cI o a (up2 mm 19 0 0) (sp_t z x y) z x y ht hI.T0) ke_X5_isOld wd_l_X5_130 (by decide) mo_blind (fun U hU hv => ⟨by rw [hU]; exact hM, hK.moved hv⟩) (mo_recv hK hM) rfl hl.1 rfl (Nat.le_of_ble_eq_true rfl) dX5_isStale_21 hf (fun r3 hr3 => ?_)
      refine bo_eq (tgt := 31) hr3 hx hb dX5_isStale_24 (by decide) (fun c2 => ?_) (fun c2 => ?_)
      · skip
        refine lv_iconst (v := 0) hx hb dX5_isStale_31 (by decide) ?_
        exact mo_zret hx hb hr hlk (by first | exact Or.inl rfl | exact Or.inr rfl) hK hM hS (by first | (rw [sp_isst, if_neg cP]; done) | (rw [sp_isst, if_pos cP]; exact congrArg (fun v => (v, up2 mm 19 0 0)) (bo_p c2)) | (rw [sp_isst, if_pos cP]; exact congrArg (fun v => (v, up2 mm 19 0 0)) (bo_n c2))) dX5_isStale_32
      · skip
        refine lv_iconst (v := 1) hx hb dX5_isStale_27 (by decide) ?_
        refine lv_goto (tgt := 32) hx hb dX5_isStale_28 (by decide) ?_
        exact mo_zret hx hb hr hlk (by first | exact Or.inl rfl | exact Or.inr rfl) hK hM hS (by first | (rw [sp_isst, if_neg cP]; done) | (rw [sp_isst, if_pos cP]; exact congrArg (fun v => (v, up2 mm 19 0 0)) (bo_p c2)) | (rw [sp_isst, if_pos cP]; exact congrArg (fun v => (v, up2 mm 19 0 0)) (bo_n c2))) dX5_isStale_32
  · skip
    rw [if_neg cP] at hr1
    obtain ⟨hr1, hr3⟩ := hr1
    subst hr1
    subst hr3
    refine lv_istore (lv' := [(4, .int (-1)), (0, .ref o), (1, .int z), (2, .int x), (3, .int y)]) hx hb dX5_isStale_7 hl (by decide) rfl (fun ls hl => ?_)
    refine lv_iload hx hb dX5_isStale_9 (lv_at hl 0 rfl) ?_
    refine lv_iconst (v := (-1)) hx hb dX5_isStale_11 (by decide) ?_
    refine lv_icmp_eq (tgt := 31) hx hb dX5_isStale_12 (by decide) (fun c1 => ?_) (fun c1 => ?_)
    · skip
      refine lv_iconst (v := 0) hx hb dX5_isStale_31 (by decide) ?_
      exact mo_zret hx hb hr hlk (by first | exact Or.inl rfl | exact Or.inr rfl) hK hM hS (by first | (rw [sp_isst, if_neg cP]; done) | (rw [sp_isst, if_pos cP]; exact congrArg (fun v => (v, up2 mm 19 0 0)) (bo_p c2)) | (rw [sp_isst, if_pos cP]; exact congrArg (fun v => (v, up2 mm 19 0 0)) (bo_n c2))) dX5_isStale_32
    · skip
      exact absurd rfl c1
theorem ke_X5_stales : wl_V RX5 yX5_stales cX5_stales 8 (some .int) 2 := ⟨wd_c_X5_stales, wd_i_X5_stales, wd_s_X5_stales, wd_n_X5, by decide, by decide +kernel⟩
set_option maxHeartbeats 4000000 in
set_option maxRecDepth 100000 in
theorem m_X5_stales (l : Launch) (D : va_G) (cI : ClassId) (o : Nat) (a : Nat → Nat) (mm : q_Mem) (hMD : mo_D o a) (zi : Nat) (dr : Bool) (z2 : Int32) (hz : zi < 5) (hd : z2 = if dr = true then 1 else 0) (hI : Inv mm) : mo_Ci l yX5_stales cX5_stales 8 (some .int) 3 76 D cI o a mm [.int (nI zi), .int z2] (fun r m1 => (r, m1) = it_b (sp_ste dr) (tb_z zi) (2 ^ zi * 2 ^ zi) (0, mm)) := by
  refine mo_ofQ (by decide) (Nat.le_of_ble_eq_true rfl) ?_
  intro p e s m args below meth c hx hb hr hF hlk hM hK hS ls hl
  have hA : ∀ q, mo_R o a q → mo_R o a q := fun _ h => h
  have hl : lv_has ls 8 [(0, .ref o), (1, .int (nI zi)), (2, .int z2)] := hl
  have hf : (0 : Nat) ≤ 0 ∧ (0 : Nat) ≤ 0 := ⟨Nat.le_refl 0, Nat.le_refl 0⟩
  have hpw := pw_le zi hz
  have hpp : 2 ^ zi * 2 ^ zi ≤ 256 := Nat.mul_le_mul hpw hpw
  have hp0 : 0 < 2 ^ zi := Nat.pow_pos (by decide)
  refine lv_iconst (v := 1) hx hb dX5_stales_0 (by decide) ?_
  refine lv_iload_n hx hb dX5_stales_1 rfl (lv_at hl 1 rfl) ?_
  refine lv_ishl hx hb dX5_stales_2 ?_
  refine bo_to (v := (nI (2 ^ zi))) (sp_mn_nI zi hz) ?_
  refine lv_istore_n (lv' := [(3, .int (nI (2 ^ zi))), (0, .ref o), (1, .int (nI zi)), (2, .int z2)]) hx hb dX5_stales_3 rfl hl (by decide) rfl (fun ls hl => ?_)
  refine lv_iconst (v := 0) hx hb dX5_stales_4 (by decide) ?_
  refine lv_istore (lv' := [(4, .int 0), (3, .int (nI (2 ^ zi))), (0, .ref o), (1, .int (nI zi)), (2, .int z2)]) hx hb dX5_stales_5 hl (by decide) rfl (fun ls hl => ?_)
  refine lv_iconst (v := 0) hx hb dX5_stales_7 (by decide) ?_
  refine lv_istore (lv' := [(5, .int 0), (4, .int 0), (3, .int (nI (2 ^ zi))), (0, .ref o), (1, .int (nI zi)), (2, .int z2)]) hx hb dX5_stales_8 hl (by decide) rfl (fun ls hl => ?_)
  refine bo_loop (σ := Nat × Int32 × q_Mem) (μ := fun (qx : Nat × Int32 × q_Mem) => match qx with | (k, q1, m2) => 2 ^ zi * 2 ^ zi - k) (I := fun (qx : Nat × Int32 × q_Mem) (H : Heap) (locs : List Loc) (ls : Array Slot) => match qx with | (k, q1, m2) => mo_H D cI o a m2 H ∧ va_S (mo_R o a) s.heap H locs ∧ lv_has ls 8 [(4, .int q1), (5, .int (nI k)), (0, .ref o), (1, .int (nI zi)), (2, .int z2), (3, .int (nI (2 ^ zi)))] ∧ ((q1, m2) = it_b (sp_ste dr) (tb_z zi) k (0, mm)) ∧ (Inv m2) ∧ (k ≤ 2 ^ zi * 2 ^ zi)) ((0, 0, mm)) ⟨hM, hS, lv_sub hl [1, 0, 3, 4, 5, 2] rfl, rfl, hI, Nat.zero_le _⟩ ?_
  intro x10 H locs ls hI10 ih10
  obtain ⟨k, q1, m2⟩ := x10
  obtain ⟨hM, hS, hl, hq, hJ, hk⟩ := hI10
  refine lv_iload hx hb dX5_stales_10 (lv_at hl 1 rfl) ?_
  refine lv_iload_n hx hb dX5_stales_12 rfl (lv_at hl 5 rfl) ?_
  refine lv_iload_n hx hb dX5_stales_13 rfl (lv_at hl 5 rfl) ?_
  refine lv_imul hx hb dX5_stales_14 ?_
  refine bo_to (v := (nI (2 ^ zi * 2 ^ zi))) (pk_mul _ _) ?_
  refine lv_icmp_ge (tgt := 92) hx hb dX5_stales_15 (by decide) (fun c1 => ?_) (fun c1 => ?_)
  · skip
    have hk2 : k = 2 ^ zi * 2 ^ zi := by have := (nI_leI (by omega) (by omega)).mp c1; omega
    refine lv_iload hx hb dX5_stales_92 (lv_at hl 0 rfl) ?_
    exact mo_iret hx hb hr hlk hK hM hS (by rw [hq, hk2]) dX5_stales_94
  · skip
    have hk2 : k < 2 ^ zi * 2 ^ zi := by have : ¬ 2 ^ zi * 2 ^ zi ≤ k := fun q => c1 ((nI_leI (by omega) (by omega)).mpr q); omega
    obtain ⟨t1, t2, t3, t4⟩ := tt_of zi hz k hk2
    refine lv_iload_n hx hb dX5_stales_18 rfl (lv_at hl 5 rfl) ?_
    refine lv_iload_n hx hb dX5_stales_19 rfl (lv_at hl 5 rfl) ?_
    refine lv_imul hx hb dX5_stales_20 ?_
    refine bo_to (v := (nI (2 ^ zi * 2 ^ zi))) (pk_mul _ _) ?_
    refine lv_iconst (v := 1) hx hb dX5_stales_21 (by decide) ?_
    refine lv_isub hx hb dX5_stales_22 ?_
    refine bo_to (v := (nI (2 ^ zi * 2 ^ zi - 1))) (nI_m1 (Nat.mul_pos hp0 hp0)) ?_
    refine lv_iconst (v := 3) hx hb dX5_stales_23 (by decide) ?_
    refine lv_idiv hx hb dX5_stales_24 (by decide) ?_
    refine bo_to (v := (nI (tb_z zi))) (pk_div (d := 3) (by omega) (by decide) (by decide)) ?_
    refine lv_iload hx hb dX5_stales_25 (lv_at hl 1 rfl) ?_
    refine lv_iadd hx hb dX5_stales_27 ?_
    refine bo_to (v := (nI (tb_z zi + k))) (nI_add _ _) ?_
    refine lv_istore (lv' := [(6, .int (nI (tb_z zi + k))), (4, .int q1), (5, .int (nI k)), (0, .ref o), (1, .int (nI zi)), (2, .int z2), (3, .int (nI (2 ^ zi)))]) hx hb dX5_stales_28 hl (by decide) rfl (fun ls hl => ?_)
    refine lv_aload_n hx hb dX5_stales_30 rfl (lv_at hl 3 rfl) ?_
    refine lv_iload hx hb dX5_stales_31 (lv_at hl 0 rfl) ?_
    refine lv_iload_n hx hb dX5_stales_33 rfl (lv_at hl 4 rfl) ?_
    refine lv_iload hx hb dX5_stales_34 (lv_at hl 2 rfl) ?_
    refine lv_iload_n hx hb dX5_stales_36 rfl (lv_at hl 6 rfl) ?_
    refine lv_irem hx hb dX5_stales_37 (nI_ne0 hp0 (by omega)) ?_
    refine bo_to (v := (nI (k % 2 ^ zi))) (pk_rem (by omega) hp0 (by omega)) ?_
    refine lv_iload hx hb dX5_stales_38 (lv_at hl 2 rfl) ?_
    refine lv_iload_n hx hb dX5_stales_40 rfl (lv_at hl 6 rfl) ?_
    refine lv_idiv hx hb dX5_stales_41 (nI_ne0 hp0 (by omega)) ?_
    refine bo_to (v := (nI (k / 2 ^ zi))) (pk_div (by omega) hp0 (by omega)) ?_
    refine rc_V (fr := 1) (lo := 25) (As := [.int (nI (tb_z zi + k)), .int (nI zi), .int (nI (k % 2 ^ zi)), .int (nI (k / 2 ^ zi))]) (rest := []) hF (m_X5_isOld l D cI o a m2 (tb_z zi + k) (nI zi) (nI (k % 2 ^ zi)) (nI (k / 2 ^ zi)) t1 hJ) ke_X5_isOld wd_l_X5_130 (by decide) mo_blind (fun U hU hv => ⟨by rw [hU]; exact hM, hK.moved hv⟩) (mo_recv hK hM) rfl hl.1 rfl (Nat.le_of_ble_eq_true rfl) dX5_stales_42 hf (fun r1 hr1 => ?_)
    refine lv_istore (lv' := [(7, .int r1), (6, .int (nI (tb_z zi + k))), (4, .int q1), (5, .int (nI k)), (0, .ref o), (1, .int (nI zi)), (2, .int z2), (3, .int (nI (2 ^ zi)))]) hx hb dX5_stales_45 hl (by decide) rfl (fun ls hl => ?_)
    refine lv_iload hx hb dX5_stales_47 (lv_at hl 2 rfl) ?_
    refine bo_cut (ls := ls) (tgt := 59) (E := if sp_old m2 (tb_z zi + k) (nI zi) (nI (k % 2 ^ zi)) (nI (k / 2 ^ zi)) = true then 1 else 0) (rest := [.int q1]) (fun vb evb => ?_) (fun J59 => ?_)
    · skip
      refine lv_iadd hx hb dX5_stales_59 ?_
      refine lv_topi (fun q2 eq2 => ?_)
      rw [evb] at eq2
      refine lv_istore (lv' := [(4, .int q2), (7, .int r1), (6, .int (nI (tb_z zi + k))), (5, .int (nI k)), (0, .ref o), (1, .int (nI zi)), (2, .int z2), (3, .int (nI (2 ^ zi)))]) hx hb dX5_stales_60 hl (by decide) rfl (fun ls hl => ?_)
      refine lv_iload hx hb dX5_stales_62 (lv_at hl 1 rfl) ?_
      refine bo_eq (tgt := 86) hr1 hx hb dX5_stales_64 (by decide) (fun c4 => ?_) (fun c4 => ?_)
      · skip
        refine lv_iinc (v := (nI (k + 1))) (lv' := [(5, .int (nI (k + 1))), (4, .int q2), (7, .int r1), (6, .int (nI (tb_z zi + k))), (0, .ref o), (1, .int (nI zi)), (2, .int z2), (3, .int (nI (2 ^ zi)))]) hx hb dX5_stales_86 hl (k := 3) rfl (nI_1 k) (by decide) rfl (fun ls hl => ?_)
        refine lv_goto (tgt := 10) hx hb dX5_stales_89 (by decide) ?_
        have hq2 : (q2, m2) = it_b (sp_ste dr) (tb_z zi) (k + 1) (0, mm) := by exact ste_no hq t2 t3 t4 c4 eq2
        have hJ2 : Inv m2 := hJ
        exact ih10 (k + 1, q2, m2) _ _ _ (by show 2 ^ zi * 2 ^ zi - (k + 1) < 2 ^ zi * 2 ^ zi - k; omega) ⟨hM, hS, lv_sub hl [1, 0, 4, 5, 6, 7] rfl, hq2, hJ2, by omega⟩
      · skip
        refine lv_iload_n hx hb dX5_stales_67 rfl (lv_at hl 6 rfl) ?_
        refine bo_eq (tgt := 86) hd hx hb dX5_stales_68 (by decide) (fun c5 => ?_) (fun c5 => ?_)
        · skip
          refine lv_iinc (v := (nI (k + 1))) (lv' := [(5, .int (nI (k + 1))), (4, .int q2), (7, .int r1), (6, .int (nI (tb_z zi + k))), (0, .ref o), (1, .int (nI zi)), (2, .int z2), (3, .int (nI (2 ^ zi)))]) hx hb dX5_stales_86 hl (k := 3) rfl (nI_1 k) (by decide) rfl (fun ls hl => ?_)
          refine lv_goto (tgt := 10) hx hb dX5_stales_89 (by decide) ?_
          have hq2 : (q2, m2) = it_b (sp_ste dr) (tb_z zi) (k + 1) (0, mm) := by exact ste_yes0 hq t2 t3 t4 c4 eq2 c5
          have hJ2 : Inv m2 := hJ
          exact ih10 (k + 1, q2, m2) _ _ _ (by show 2 ^ zi * 2 ^ zi - (k + 1) < 2 ^ zi * 2 ^ zi - k; omega) ⟨hM, hS, lv_sub hl [1, 0, 4, 5, 6, 7] rfl, hq2, hJ2, by omega⟩
        · skip
          refine lv_aload_n hx hb dX5_stales_71 rfl (lv_at hl 4 rfl) ?_
          refine lv_iload hx hb dX5_stales_72 (lv_at hl 2 rfl) ?_
          refine lv_iload_n hx hb dX5_stales_74 rfl (lv_at hl 5 rfl) ?_
          refine lv_iload hx hb dX5_stales_75 (lv_at hl 3 rfl) ?_
          refine lv_iload_n hx hb dX5_stales_77 rfl (lv_at hl 7 rfl) ?_
          refine lv_irem hx hb dX5_stales_78 (nI_ne0 hp0 (by omega)) ?_
          refine bo_to (v := (nI (k % 2 ^ zi))) (pk_rem (by omega) hp0 (by omega)) ?_
          refine lv_iload hx hb dX5_stales_79 (lv_at hl 3 rfl) ?_
          refine lv_iload_n hx hb dX5_stales_81 rfl (lv_at hl 7 rfl) ?_
          refine lv_idiv hx hb dX5_stales_82 (nI_ne0 hp0 (by omega)) ?_
          refine bo_to (v := (nI (k / 2 ^ zi))) (pk_div (by omega) hp0 (by omega)) ?_
          refine mo_vV (fr := 2) (lo := 52) (As := [.int (nI (tb_z zi + k)), .int (nI zi), .int (nI (k % 2 ^ zi)), .int (nI (k / 2 ^ zi))]) (rest := []) hF (m_X5_draws l D cI o a m2 hMD (tb_z zi + k) (nI zi) (nI (k % 2 ^ zi)) (nI (k / 2 ^ zi)) t1 hJ) ke_X5_draws wd_l_X5_127 (by decide) hK hM hS hA rfl hl.1 rfl (Nat.le_of_ble_eq_true rfl) dX5_stales_83 hf (fun mm4 H locs hmm4 hM hS => ?_)
          subst hmm4
          refine lv_iinc (v := (nI (k + 1))) (lv' := [(5, .int (nI (k + 1))), (4, .int q2), (7, .int r1), (6, .int (nI (tb_z zi + k))), (0, .ref o), (1, .int (nI zi)), (2, .int z2), (3, .int (nI (2 ^ zi)))]) hx hb dX5_stales_86 hl (k := 3) rfl (nI_1 k) (by decide) rfl (fun ls hl => ?_)
          refine lv_goto (tgt := 10) hx hb dX5_stales_89 (by decide) ?_
          have hq2 : (q2, sp_draws m2 (tb_z zi + k) (nI zi) (nI (k % 2 ^ zi)) (nI (k / 2 ^ zi))) = it_b (sp_ste dr) (tb_z zi) (k + 1) (0, mm) := by exact ste_yes hq t2 t3 t4 c4 eq2 c5
          have hJ2 : Inv (sp_draws m2 (tb_z zi + k) (nI zi) (nI (k % 2 ^ zi)) (nI (k / 2 ^ zi))) := hJ.dr _ _ _
          exact ih10 (k + 1, q2, sp_draws m2 (tb_z zi + k) (nI zi) (nI (k % 2 ^ zi)) (nI (k / 2 ^ zi))) _ _ _ (by show 2 ^ zi * 2 ^ zi - (k + 1) < 2 ^ zi * 2 ^ zi - k; omega) ⟨hM, hS, lv_sub hl [1, 0, 4, 5, 6, 7] rfl, hq2, hJ2, by omega⟩
    · skip
      refine lv_iload hx hb dX5_stales_49 (lv_at hl 0 rfl) ?_
      refine bo_eq (tgt := 58) hr1 hx hb dX5_stales_51 (by decide) (fun c3 => ?_) (fun c3 => ?_)
      · skip
        refine lv_iconst (v := 0) hx hb dX5_stales_58 (by decide) ?_
        exact J59 _ (by first | exact bo_p c3 | exact bo_n c3)
      · skip
        refine lv_iconst (v := 1) hx hb dX5_stales_54 (by decide) ?_
        refine lv_goto (tgt := 59) hx hb dX5_stales_55 (by decide) ?_
        exact J59 _ (by first | exact bo_p c3 | exact bo_n c3)
theorem ke_X5_staleTiles : wl_V RX5 yX5_staleTiles cX5_staleTiles 2 (some .int) 1 := ⟨wd_c_X5_staleTiles, wd_i_X5_staleTiles, wd_s_X5_staleTiles, wd_n_X5, by decide, by decide +kernel⟩
set_option maxHeartbeats 4000000 in
set_option maxRecDepth 100000 in
theorem m_X5_staleTiles (l : Launch) (D : va_G) (cI : ClassId) (o : Nat) (a : Nat → Nat) (mm : q_Mem) (hMD : mo_D o a) (x : Int32) (hI : Inv mm) : mo_Ci l yX5_staleTiles cX5_staleTiles 2 (some .int) 4 103 D cI o a mm [.int x] (fun r m1 => (r, m1) = sp_stl mm x) := by
  refine mo_ofQ (by decide) (Nat.le_of_ble_eq_true rfl) ?_
  intro p e s m args below meth c hx hb hr hF hlk hM hK hS ls hl
  have hA : ∀ q, mo_R o a q → mo_R o a q := fun _ h => h
  have hl : lv_has ls 2 [(0, .ref o), (1, .int x)] := hl
  have hf : (0 : Nat) ≤ 0 ∧ (0 : Nat) ≤ 0 := ⟨Nat.le_refl 0, Nat.le_refl 0⟩
  refine lv_aload_n hx hb dX5_staleTiles_0 rfl (lv_at hl 0 rfl) ?_
  refine lv_iload_n hx hb dX5_staleTiles_1 rfl (lv_at hl 1 rfl) ?_
  refine lv_iconst (v := 0) hx hb dX5_staleTiles_2 (by decide) ?_
  refine lv_iconst (v := 4) hx hb dX5_staleTiles_3 (by decide) ?_
  refine rc_S (fr := 0) (lo := 0) (As := [.int x, .int 0, .int 4]) (rest := [.ref o]) hF (m_X5_in l x 0 4) ke_X5_in wd_l_X5_65 (by decide) bl_true (fun _ _ _ => trivial) rfl hl.1 rfl (Nat.le_of_ble_eq_true rfl) dX5_staleTiles_4 hf (fun r1 hr1 => ?_)
  refine mo_iV (fr := 0) (lo := 0) (As := [.int r1]) (rest := []) hF (m_X5_asks l D cI o a mm hMD r1 (sp_z4 x) hr1) ke_X5_asks wd_l_X5_83 (by decide) hK hM hS hA rfl hl.1 rfl (Nat.le_of_ble_eq_true rfl) dX5_staleTiles_7 hf (fun r2 mm3 H locs hr2 hM hS _ _ => ?_)
  obtain ⟨hr2, hmm3⟩ := hr2
  subst hmm3
  have hbr2 := hr2.trans hr1
  refine bo_eq (tgt := 22) hbr2 hx hb dX5_staleTiles_10 (by decide) (fun cP => ?_) (fun cP => ?_)
  · skip
    rw [if_neg cP] at hM
    refine lv_iconst (v := 0) hx hb dX5_staleTiles_22 (by decide) ?_
    exact mo_iret hx hb hr hlk hK hM hS (by rw [sp_stl, if_neg cP]) dX5_staleTiles_23
  · skip
    rw [if_pos cP] at hM
    obtain ⟨zi, hz, rfl⟩ := nt_z4 cP
    refine lv_aload_n hx hb dX5_staleTiles_13 rfl (lv_at hl 0 rfl) ?_
    refine lv_iload_n hx hb dX5_staleTiles_14 rfl (lv_at hl 1 rfl) ?_
    refine lv_iconst (v := 0) hx hb dX5_staleTiles_15 (by decide) ?_
    refine mo_iV (fr := 3) (lo := 76) (As := [.int (nI zi), .int 0]) (rest := []) hF (m_X5_stales l D cI o a (up2 mm 19 0 0) hMD zi false 0 hz rfl hI.T0) ke_X5_stales wd_l_X5_133 (by decide) hK hM hS hA rfl hl.1 rfl (Nat.le_of_ble_eq_true rfl) dX5_staleTiles_16 hf (fun r4 mm5 H locs hr4 hM hS _ _ => ?_)
    refine lv_goto (tgt := 23) hx hb dX5_staleTiles_19 (by decide) ?_
    exact mo_iret hx hb hr hlk hK hM hS (by rw [sp_stl, if_pos cP, nt_c (by omega), ← hr4]; exact congrArg (fun v => (r4, v)) ((congrArg Prod.snd hr4).trans (ste_keep _ _ _))) dX5_staleTiles_23
theorem ke_X5_refresh : wl_V RX5 yX5_refresh cX5_refresh 3 (some .int) 0 := ⟨wd_c_X5_refresh, wd_i_X5_refresh, wd_s_X5_refresh, wd_n_X5, by decide, by decide +kernel⟩
set_option maxHeartbeats 4000000 in
set_option maxRecDepth 100000 in
theorem m_X5_refresh (l : Launch) (D : va_G) (cI : ClassId) (o : Nat) (a : Nat → Nat) (mm : q_Mem) (hMD : mo_D o a) (hI : Inv mm) : mo_Ci l yX5_refresh cX5_refresh 3 (some .int) 4 103 D cI o a mm [] (fun r m1 => (r, m1) = sp_refr mm) := by
  refine mo_ofQ (by decide) (Nat.le_of_ble_eq_true rfl) ?_
  intro p e s m args below meth c hx hb hr hF hlk hM hK hS ls hl
  have hA : ∀ q, mo_R o a q → mo_R o a q := fun _ h => h
  have hl : lv_has ls 3 [(0, .ref o)] := hl
  have hf : (0 : Nat) ≤ 0 ∧ (0 : Nat) ≤ 0 := ⟨Nat.le_refl 0, Nat.le_refl 0⟩
  refine lv_aload_n hx hb dX5_refresh_0 rfl (lv_at hl 0 rfl) ?_
  refine lv_iconst (v := 0) hx hb dX5_refresh_1 (by decide) ?_
  refine mo_put (mm := mm) hF hK hM hMD hS hA 19 (by decide) wd_f_X5_61 dX5_refresh_2 (fun H locs hM hS => ?_)
  refine lv_iconst (v := 0) hx hb dX5_refresh_5 (by decide) ?_
  refine lv_istore_n (lv' := [(1, .int 0), (0, .ref o)]) hx hb dX5_refresh_6 rfl hl (by decide) rfl (fun ls hl => ?_)
  refine lv_iconst (v := 0) hx hb dX5_refresh_7 (by decide) ?_
  refine lv_istore_n (lv' := [(2, .int 0), (1, .int 0), (0, .ref o)]) hx hb dX5_refresh_8 rfl hl (by decide) rfl (fun ls hl => ?_)
  refine bo_loop (σ := Nat × Int32 × q_Mem) (μ := fun (qx : Nat × Int32 × q_Mem) => match qx with | (zi, q1, m2) => 5 - zi) (I := fun (qx : Nat × Int32 × q_Mem) (H : Heap) (locs : List Loc) (ls : Array Slot) => match qx with | (zi, q1, m2) => mo_H D cI o a m2 H ∧ va_S (mo_R o a) s.heap H locs ∧ lv_has ls 3 [(1, .int q1), (2, .int (nI zi)), (0, .ref o)] ∧ ((q1, m2) = it_n (sp_ste true) (tb_z zi) (0, up2 mm 19 0 0)) ∧ (Inv m2) ∧ (zi ≤ 5)) ((0, 0, up2 mm 19 0 0)) ⟨hM, hS, lv_sub hl [1, 0, 2] rfl, rfl, hI.T0, by decide⟩ ?_
  intro x9 H locs ls hI9 ih9
  obtain ⟨zi, q1, m2⟩ := x9
  obtain ⟨hM, hS, hl, hq, hJ, hz5⟩ := hI9
  refine lv_iload_n hx hb dX5_refresh_9 rfl (lv_at hl 1 rfl) ?_
  refine lv_iconst (v := 5) hx hb dX5_refresh_10 (by decide) ?_
  refine lv_icmp_ge (tgt := 29) hx hb dX5_refresh_11 (by decide) (fun c1 => ?_) (fun c1 => ?_)
  · skip
    have hz : zi = 5 := by have := (nI_leI (a := 5) (by omega) (by omega)).mp c1; omega
    refine lv_iload_n hx hb dX5_refresh_29 rfl (lv_at hl 0 rfl) ?_
    exact mo_iret hx hb hr hlk hK hM hS (by rw [hq, hz]; rfl) dX5_refresh_30
  · skip
    have hz : zi < 5 := by have : ¬ 5 ≤ zi := fun q => c1 ((nI_leI (a := 5) (by omega) (by omega)).mpr q); omega
    refine lv_iload_n hx hb dX5_refresh_14 rfl (lv_at hl 0 rfl) ?_
    refine lv_aload_n hx hb dX5_refresh_15 rfl (lv_at hl 2 rfl) ?_
    refine lv_iload_n hx hb dX5_refresh_16 rfl (lv_at hl 1 rfl) ?_
    refine lv_iconst (v := 1) hx hb dX5_refresh_17 (by decide) ?_
    refine mo_iV (fr := 3) (lo := 76) (As := [.int (nI zi), .int 1]) (rest := [.int q1]) hF (m_X5_stales l D cI o a m2 hMD zi true 1 hz rfl hJ) ke_X5_stales wd_l_X5_133 (by decide) hK hM hS hA rfl hl.1 rfl (Nat.le_of_ble_eq_true rfl) dX5_refresh_18 hf (fun r1 mm2 H locs hr1 hM hS _ _ => ?_)
    refine lv_iadd hx hb dX5_refresh_21 ?_
    refine lv_istore_n (lv' := [(1, .int (q1 + r1)), (2, .int (nI zi)), (0, .ref o)]) hx hb dX5_refresh_22 rfl hl (by decide) rfl (fun ls hl => ?_)
    refine lv_iinc (v := (nI (zi + 1))) (lv' := [(2, .int (nI (zi + 1))), (1, .int (q1 + r1)), (0, .ref o)]) hx hb dX5_refresh_23 hl (k := 1) rfl (nI_1 zi) (by decide) rfl (fun ls hl => ?_)
    refine lv_goto (tgt := 9) hx hb dX5_refresh_26 (by decide) ?_
    exact ih9 (zi + 1, (q1 + r1), mm2) _ _ _ (by show 5 - (zi + 1) < 5 - zi; omega) ⟨hM, hS, lv_sub hl [1, 0, 2] rfl, by rw [tb_next zi hz, it_n_add, ← hq]; exact ste_sum hr1, ste_inv hJ hz hr1, by omega⟩
