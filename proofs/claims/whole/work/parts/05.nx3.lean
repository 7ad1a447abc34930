theorem dX0_init_0 : decode cX0_init 0 = .ok (.aload_n 0, 1) := by decide +kernel
theorem dX0_init_1 : decode cX0_init 1 = .ok (.invokespecial 1, 3) := by decide +kernel
theorem dX0_init_4 : decode cX0_init 4 = .ok (.aload_n 0, 1) := by decide +kernel
theorem dX0_init_5 : decode cX0_init 5 = .ok (.iload_n 1, 1) := by decide +kernel
theorem dX0_init_6 : decode cX0_init 6 = .ok (.putfield 7, 3) := by decide +kernel
theorem dX0_init_9 : decode cX0_init 9 = .ok (.aload_n 0, 1) := by decide +kernel
theorem dX0_init_10 : decode cX0_init 10 = .ok (.iload_n 2, 1) := by decide +kernel
theorem dX0_init_11 : decode cX0_init 11 = .ok (.putfield 13, 3) := by decide +kernel
theorem dX0_init_14 : decode cX0_init 14 = .ok (.aload_n 0, 1) := by decide +kernel
theorem dX0_init_15 : decode cX0_init 15 = .ok (.iload_n 3, 1) := by decide +kernel
theorem dX0_init_16 : decode cX0_init 16 = .ok (.putfield 16, 3) := by decide +kernel
theorem dX0_init_19 : decode cX0_init 19 = .ok (.return_, 1) := by decide +kernel
theorem dX0_coded_0 : decode cX0_coded 0 = .ok (.bipush 100, 2) := by decide +kernel
theorem dX0_coded_2 : decode cX0_coded 2 = .ok (.aload_n 0, 1) := by decide +kernel
theorem dX0_coded_3 : decode cX0_coded 3 = .ok (.getfield 7, 3) := by decide +kernel
theorem dX0_coded_6 : decode cX0_coded 6 = .ok (.imul, 1) := by decide +kernel
theorem dX0_coded_7 : decode cX0_coded 7 = .ok (.bipush 10, 2) := by decide +kernel
theorem dX0_coded_9 : decode cX0_coded 9 = .ok (.aload_n 0, 1) := by decide +kernel
theorem dX0_coded_10 : decode cX0_coded 10 = .ok (.getfield 13, 3) := by decide +kernel
theorem dX0_coded_13 : decode cX0_coded 13 = .ok (.imul, 1) := by decide +kernel
theorem dX0_coded_14 : decode cX0_coded 14 = .ok (.iadd, 1) := by decide +kernel
theorem dX0_coded_15 : decode cX0_coded 15 = .ok (.aload_n 0, 1) := by decide +kernel
theorem dX0_coded_16 : decode cX0_coded 16 = .ok (.getfield 16, 3) := by decide +kernel
theorem dX0_coded_19 : decode cX0_coded 19 = .ok (.iadd, 1) := by decide +kernel
theorem dX0_coded_20 : decode cX0_coded 20 = .ok (.iconst 1, 1) := by decide +kernel
theorem dX0_coded_21 : decode cX0_coded 21 = .ok (.iadd, 1) := by decide +kernel
theorem dX0_coded_22 : decode cX0_coded 22 = .ok (.ireturn, 1) := by decide +kernel
theorem dX1_init_0 : decode cX1_init 0 = .ok (.aload_n 0, 1) := by decide +kernel
theorem dX1_init_1 : decode cX1_init 1 = .ok (.invokespecial 3, 3) := by decide +kernel
theorem dX1_init_4 : decode cX1_init 4 = .ok (.aload_n 0, 1) := by decide +kernel
theorem dX1_init_5 : decode cX1_init 5 = .ok (.iconst 0, 1) := by decide +kernel
theorem dX1_init_6 : decode cX1_init 6 = .ok (.putfield 9, 3) := by decide +kernel
theorem dX1_init_9 : decode cX1_init 9 = .ok (.aload_n 0, 1) := by decide +kernel
theorem dX1_init_10 : decode cX1_init 10 = .ok (.iconst 0, 1) := by decide +kernel
theorem dX1_init_11 : decode cX1_init 11 = .ok (.putfield 15, 3) := by decide +kernel
theorem dX1_init_14 : decode cX1_init 14 = .ok (.bipush 16, 2) := by decide +kernel
theorem dX1_init_16 : decode cX1_init 16 = .ok (.iload_n 1, 1) := by decide +kernel
theorem dX1_init_17 : decode cX1_init 17 = .ok (.ishr, 1) := by decide +kernel
theorem dX1_init_18 : decode cX1_init 18 = .ok (.istore 4, 2) := by decide +kernel
theorem dX1_init_20 : decode cX1_init 20 = .ok (.aload_n 0, 1) := by decide +kernel
theorem dX1_init_21 : decode cX1_init 21 = .ok (.iload_n 1, 1) := by decide +kernel
theorem dX1_init_22 : decode cX1_init 22 = .ok (.putfield 18, 3) := by decide +kernel
theorem dX1_init_25 : decode cX1_init 25 = .ok (.aload_n 0, 1) := by decide +kernel
theorem dX1_init_26 : decode cX1_init 26 = .ok (.iload_n 2, 1) := by decide +kernel
theorem dX1_init_27 : decode cX1_init 27 = .ok (.iload 4, 2) := by decide +kernel
theorem dX1_init_29 : decode cX1_init 29 = .ok (.imul, 1) := by decide +kernel
theorem dX1_init_30 : decode cX1_init 30 = .ok (.putfield 21, 3) := by decide +kernel
theorem dX1_init_33 : decode cX1_init 33 = .ok (.aload_n 0, 1) := by decide +kernel
theorem dX1_init_34 : decode cX1_init 34 = .ok (.aload_n 0, 1) := by decide +kernel
theorem dX1_init_35 : decode cX1_init 35 = .ok (.getfield 21, 3) := by decide +kernel
theorem dX1_init_38 : decode cX1_init 38 = .ok (.iload 4, 2) := by decide +kernel
theorem dX1_init_40 : decode cX1_init 40 = .ok (.iadd, 1) := by decide +kernel
theorem dX1_init_41 : decode cX1_init 41 = .ok (.putfield 24, 3) := by decide +kernel
theorem dX1_init_44 : decode cX1_init 44 = .ok (.aload_n 0, 1) := by decide +kernel
theorem dX1_init_45 : decode cX1_init 45 = .ok (.iload_n 3, 1) := by decide +kernel
theorem dX1_init_46 : decode cX1_init 46 = .ok (.iload 4, 2) := by decide +kernel
theorem dX1_init_48 : decode cX1_init 48 = .ok (.imul, 1) := by decide +kernel
theorem dX1_init_49 : decode cX1_init 49 = .ok (.putfield 27, 3) := by decide +kernel
theorem dX1_init_52 : decode cX1_init 52 = .ok (.aload_n 0, 1) := by decide +kernel
theorem dX1_init_53 : decode cX1_init 53 = .ok (.aload_n 0, 1) := by decide +kernel
theorem dX1_init_54 : decode cX1_init 54 = .ok (.getfield 27, 3) := by decide +kernel
theorem dX1_init_57 : decode cX1_init 57 = .ok (.iload 4, 2) := by decide +kernel
theorem dX1_init_59 : decode cX1_init 59 = .ok (.iadd, 1) := by decide +kernel
theorem dX1_init_60 : decode cX1_init 60 = .ok (.putfield 30, 3) := by decide +kernel
theorem dX1_init_63 : decode cX1_init 63 = .ok (.return_, 1) := by decide +kernel
theorem dX1_shows_0 : decode cX1_shows 0 = .ok (.aload_n 1, 1) := by decide +kernel
theorem dX1_shows_1 : decode cX1_shows 1 = .ok (.ifnull 23, 3) := by decide +kernel
theorem dX1_shows_4 : decode cX1_shows 4 = .ok (.aload_n 1, 1) := by decide +kernel
theorem dX1_shows_5 : decode cX1_shows 5 = .ok (.getfield 33, 3) := by decide +kernel
theorem dX1_shows_8 : decode cX1_shows 8 = .ok (.getfield 39, 3) := by decide +kernel
theorem dX1_shows_11 : decode cX1_shows 11 = .ok (.iconst 3, 1) := by decide +kernel
theorem dX1_shows_12 : decode cX1_shows 12 = .ok (.aload_n 0, 1) := by decide +kernel
theorem dX1_shows_13 : decode cX1_shows 13 = .ok (.getfield 18, 3) := by decide +kernel
theorem dX1_shows_16 : decode cX1_shows 16 = .ok (.isub, 1) := by decide +kernel
theorem dX1_shows_17 : decode cX1_shows 17 = .ok (.if_icmp .lt 7, 3) := by decide +kernel
theorem dX1_shows_20 : decode cX1_shows 20 = .ok (.iconst 1, 1) := by decide +kernel
theorem dX1_shows_21 : decode cX1_shows 21 = .ok (.goto 4, 3) := by decide +kernel
theorem dX1_shows_24 : decode cX1_shows 24 = .ok (.iconst 0, 1) := by decide +kernel
theorem dX1_shows_25 : decode cX1_shows 25 = .ok (.ireturn, 1) := by decide +kernel
theorem dX2_init_0 : decode cX2_init 0 = .ok (.aload_n 0, 1) := by decide +kernel
theorem dX2_init_1 : decode cX2_init 1 = .ok (.invokespecial 1, 3) := by decide +kernel
theorem dX2_init_4 : decode cX2_init 4 = .ok (.aload_n 0, 1) := by decide +kernel
theorem dX2_init_5 : decode cX2_init 5 = .ok (.aload_n 1, 1) := by decide +kernel
theorem dX2_init_6 : decode cX2_init 6 = .ok (.putfield 7, 3) := by decide +kernel
theorem dX2_init_9 : decode cX2_init 9 = .ok (.aload_n 0, 1) := by decide +kernel
theorem dX2_init_10 : decode cX2_init 10 = .ok (.iload_n 2, 1) := by decide +kernel
theorem dX2_init_11 : decode cX2_init 11 = .ok (.putfield 13, 3) := by decide +kernel
theorem dX2_init_14 : decode cX2_init 14 = .ok (.aload_n 0, 1) := by decide +kernel
theorem dX2_init_15 : decode cX2_init 15 = .ok (.aload_n 3, 1) := by decide +kernel
theorem dX2_init_16 : decode cX2_init 16 = .ok (.ifnonnull 7, 3) := by decide +kernel
theorem dX2_init_19 : decode cX2_init 19 = .ok (.iconst 0, 1) := by decide +kernel
theorem dX2_init_20 : decode cX2_init 20 = .ok (.goto 9, 3) := by decide +kernel
theorem dX2_init_23 : decode cX2_init 23 = .ok (.aload_n 3, 1) := by decide +kernel
theorem dX2_init_24 : decode cX2_init 24 = .ok (.getfield 17, 3) := by decide +kernel
theorem dX2_init_27 : decode cX2_init 27 = .ok (.iconst 1, 1) := by decide +kernel
theorem dX2_init_28 : decode cX2_init 28 = .ok (.iadd, 1) := by decide +kernel
theorem dX2_init_29 : decode cX2_init 29 = .ok (.putfield 17, 3) := by decide +kernel
theorem dX2_init_32 : decode cX2_init 32 = .ok (.aload_n 0, 1) := by decide +kernel
theorem dX2_init_33 : decode cX2_init 33 = .ok (.aload_n 3, 1) := by decide +kernel
theorem dX2_init_34 : decode cX2_init 34 = .ok (.putfield 20, 3) := by decide +kernel
theorem dX2_init_37 : decode cX2_init 37 = .ok (.return_, 1) := by decide +kernel
set_option maxRecDepth 20000 in
theorem ggX3_init_J7_fill_53178 : GoodIn wsX3_init wsJ7_fill_53178 := goodIn_r _ [16] (by decide +kernel) (by decide +kernel)
set_option maxRecDepth 20000 in
theorem gX3_init_J7_fill_53178 : GoodIn wsX3_init (va_wsS RX3 39 yJ7_fill_53178 wsJ7_fill_53178) := goodIn_app (goodIn_of _ (by decide +kernel)) ggX3_init_J7_fill_53178
theorem dX3_init_0 : decode cX3_init 0 = .ok (.aload_n 0, 1) := by decide +kernel
theorem dX3_init_1 : decode cX3_init 1 = .ok (.invokespecial 3, 3) := by decide +kernel
theorem dX3_init_4 : decode cX3_init 4 = .ok (.aload_n 0, 1) := by decide +kernel
theorem dX3_init_5 : decode cX3_init 5 = .ok (.iconst 0, 1) := by decide +kernel
theorem dX3_init_6 : decode cX3_init 6 = .ok (.putfield 9, 3) := by decide +kernel
theorem dX3_init_9 : decode cX3_init 9 = .ok (.aload_n 0, 1) := by decide +kernel
theorem dX3_init_10 : decode cX3_init 10 = .ok (.aconst_null, 1) := by decide +kernel
theorem dX3_init_11 : decode cX3_init 11 = .ok (.putfield 15, 3) := by decide +kernel
theorem dX3_init_14 : decode cX3_init 14 = .ok (.aload_n 0, 1) := by decide +kernel
theorem dX3_init_15 : decode cX3_init 15 = .ok (.bipush 9, 2) := by decide +kernel
theorem dX3_init_17 : decode cX3_init 17 = .ok (.newarray .int, 2) := by decide +kernel
theorem dX3_init_19 : decode cX3_init 19 = .ok (.putfield 19, 3) := by decide +kernel
theorem dX3_init_22 : decode cX3_init 22 = .ok (.aload_n 0, 1) := by decide +kernel
theorem dX3_init_23 : decode cX3_init 23 = .ok (.iload_n 1, 1) := by decide +kernel
theorem dX3_init_24 : decode cX3_init 24 = .ok (.putfield 23, 3) := by decide +kernel
theorem dX3_init_27 : decode cX3_init 27 = .ok (.aload_n 0, 1) := by decide +kernel
theorem dX3_init_28 : decode cX3_init 28 = .ok (.iload_n 2, 1) := by decide +kernel
theorem dX3_init_29 : decode cX3_init 29 = .ok (.putfield 26, 3) := by decide +kernel
theorem dX3_init_32 : decode cX3_init 32 = .ok (.aload_n 0, 1) := by decide +kernel
theorem dX3_init_33 : decode cX3_init 33 = .ok (.iload_n 3, 1) := by decide +kernel
theorem dX3_init_34 : decode cX3_init 34 = .ok (.putfield 29, 3) := by decide +kernel
theorem dX3_init_37 : decode cX3_init 37 = .ok (.aload_n 0, 1) := by decide +kernel
theorem dX3_init_38 : decode cX3_init 38 = .ok (.iload 4, 2) := by decide +kernel
theorem dX3_init_40 : decode cX3_init 40 = .ok (.putfield 32, 3) := by decide +kernel
theorem dX3_init_43 : decode cX3_init 43 = .ok (.aload_n 0, 1) := by decide +kernel
theorem dX3_init_44 : decode cX3_init 44 = .ok (.aload 5, 2) := by decide +kernel
theorem dX3_init_46 : decode cX3_init 46 = .ok (.putfield 35, 3) := by decide +kernel
theorem dX3_init_49 : decode cX3_init 49 = .ok (.aload_n 0, 1) := by decide +kernel
theorem dX3_init_50 : decode cX3_init 50 = .ok (.getfield 19, 3) := by decide +kernel
theorem dX3_init_53 : decode cX3_init 53 = .ok (.iconst (-1), 1) := by decide +kernel
theorem dX3_init_54 : decode cX3_init 54 = .ok (.invokestatic 39, 3) := by decide +kernel
theorem dX3_init_57 : decode cX3_init 57 = .ok (.return_, 1) := by decide +kernel
theorem dX3_kind_0 : decode cX3_kind 0 = .ok (.aload_n 0, 1) := by decide +kernel
theorem dX3_kind_1 : decode cX3_kind 1 = .ok (.getfield 35, 3) := by decide +kernel
theorem dX3_kind_4 : decode cX3_kind 4 = .ok (.getfield 45, 3) := by decide +kernel
theorem dX3_kind_7 : decode cX3_kind 7 = .ok (.getfield 50, 3) := by decide +kernel
theorem dX3_kind_10 : decode cX3_kind 10 = .ok (.ireturn, 1) := by decide +kernel
theorem dX3_direction_0 : decode cX3_direction 0 = .ok (.aload_n 0, 1) := by decide +kernel
theorem dX3_direction_1 : decode cX3_direction 1 = .ok (.getfield 35, 3) := by decide +kernel
theorem dX3_direction_4 : decode cX3_direction 4 = .ok (.getfield 45, 3) := by decide +kernel
theorem dX3_direction_7 : decode cX3_direction 7 = .ok (.getfield 55, 3) := by decide +kernel
theorem dX3_direction_10 : decode cX3_direction 10 = .ok (.ireturn, 1) := by decide +kernel
theorem dX3_versionCount_0 : decode cX3_versionCount 0 = .ok (.aload_n 0, 1) := by decide +kernel
theorem dX3_versionCount_1 : decode cX3_versionCount 1 = .ok (.getfield 35, 3) := by decide +kernel
theorem dX3_versionCount_4 : decode cX3_versionCount 4 = .ok (.getfield 58, 3) := by decide +kernel
theorem dX3_versionCount_7 : decode cX3_versionCount 7 = .ok (.iconst 1, 1) := by decide +kernel
theorem dX3_versionCount_8 : decode cX3_versionCount 8 = .ok (.iadd, 1) := by decide +kernel
theorem dX3_versionCount_9 : decode cX3_versionCount 9 = .ok (.ireturn, 1) := by decide +kernel
set_option maxRecDepth 20000 in
theorem ggX3_distanceFromBegin_X4_distance : GoodIn wsX3_distanceFromBegin wsX4_distance := goodIn_r _ [5, 6, 7, 8, 9] (by decide +kernel) (by decide +kernel)
set_option maxRecDepth 20000 in
theorem gX3_distanceFromBegin_X4_distance_n61 : GoodIn wsX3_distanceFromBegin (wsX4_distance) := ggX3_distanceFromBegin_X4_distance
theorem dX3_distanceFromBegin_0 : decode cX3_distanceFromBegin 0 = .ok (.iload_n 1, 1) := by decide +kernel
theorem dX3_distanceFromBegin_1 : decode cX3_distanceFromBegin 1 = .ok (.iload_n 2, 1) := by decide +kernel
theorem dX3_distanceFromBegin_2 : decode cX3_distanceFromBegin 2 = .ok (.aload_n 0, 1) := by decide +kernel
theorem dX3_distanceFromBegin_3 : decode cX3_distanceFromBegin 3 = .ok (.getfield 23, 3) := by decide +kernel
theorem dX3_distanceFromBegin_6 : decode cX3_distanceFromBegin 6 = .ok (.aload_n 0, 1) := by decide +kernel
theorem dX3_distanceFromBegin_7 : decode cX3_distanceFromBegin 7 = .ok (.getfield 26, 3) := by decide +kernel
theorem dX3_distanceFromBegin_10 : decode cX3_distanceFromBegin 10 = .ok (.invokestatic 61, 3) := by decide +kernel
theorem dX3_distanceFromBegin_13 : decode cX3_distanceFromBegin 13 = .ok (.ireturn, 1) := by decide +kernel
set_option maxRecDepth 20000 in
theorem ggX3_distanceFromEnd_X4_distance : GoodIn wsX3_distanceFromEnd wsX4_distance := goodIn_r _ [5, 6, 7, 8, 9] (by decide +kernel) (by decide +kernel)
set_option maxRecDepth 20000 in
theorem gX3_distanceFromEnd_X4_distance_n61 : GoodIn wsX3_distanceFromEnd (wsX4_distance) := ggX3_distanceFromEnd_X4_distance
theorem dX3_distanceFromEnd_0 : decode cX3_distanceFromEnd 0 = .ok (.iload_n 1, 1) := by decide +kernel
theorem dX3_distanceFromEnd_1 : decode cX3_distanceFromEnd 1 = .ok (.iload_n 2, 1) := by decide +kernel
theorem dX3_distanceFromEnd_2 : decode cX3_distanceFromEnd 2 = .ok (.aload_n 0, 1) := by decide +kernel
theorem dX3_distanceFromEnd_3 : decode cX3_distanceFromEnd 3 = .ok (.getfield 29, 3) := by decide +kernel
theorem dX3_distanceFromEnd_6 : decode cX3_distanceFromEnd 6 = .ok (.aload_n 0, 1) := by decide +kernel
theorem dX3_distanceFromEnd_7 : decode cX3_distanceFromEnd 7 = .ok (.getfield 32, 3) := by decide +kernel
theorem dX3_distanceFromEnd_10 : decode cX3_distanceFromEnd 10 = .ok (.invokestatic 61, 3) := by decide +kernel
theorem dX3_distanceFromEnd_13 : decode cX3_distanceFromEnd 13 = .ok (.ireturn, 1) := by decide +kernel
set_option maxRecDepth 20000 in
theorem ggX3_distanceFrom_X3_distanceFromBegin : GoodIn wsX3_distanceFrom wsX3_distanceFromBegin := goodIn_r _ [9, 10, 11, 12, 13, 14, 15, 16, 3, 17, 24, 25, 26, 27, 28, 29, 30, 31] (by decide +kernel) (by decide +kernel)
set_option maxRecDepth 20000 in
theorem gX3_distanceFrom_X3_distanceFromBegin : GoodIn wsX3_distanceFrom (wsV RX3 65 RX3 yX3_distanceFromBegin wsX3_distanceFromBegin) := goodIn_app (goodIn_of _ (by decide +kernel)) ggX3_distanceFrom_X3_distanceFromBegin
set_option maxRecDepth 20000 in
theorem ggX3_distanceFrom_X3_distanceFromEnd : GoodIn wsX3_distanceFrom wsX3_distanceFromEnd := goodIn_r _ [21, 22, 23, 12, 13, 14, 15, 16, 3, 17, 24, 25, 26, 27, 28, 29, 30, 31] (by decide +kernel) (by decide +kernel)
set_option maxRecDepth 20000 in
theorem gX3_distanceFrom_X3_distanceFromEnd : GoodIn wsX3_distanceFrom (wsV RX3 69 RX3 yX3_distanceFromEnd wsX3_distanceFromEnd) := goodIn_app (goodIn_of _ (by decide +kernel)) ggX3_distanceFrom_X3_distanceFromEnd
theorem dX3_distanceFrom_0 : decode cX3_distanceFrom 0 = .ok (.aload_n 0, 1) := by decide +kernel
theorem dX3_distanceFrom_1 : decode cX3_distanceFrom 1 = .ok (.iload_n 1, 1) := by decide +kernel
theorem dX3_distanceFrom_2 : decode cX3_distanceFrom 2 = .ok (.iload_n 2, 1) := by decide +kernel
theorem dX3_distanceFrom_3 : decode cX3_distanceFrom 3 = .ok (.invokevirtual 65, 3) := by decide +kernel
theorem dX3_distanceFrom_6 : decode cX3_distanceFrom 6 = .ok (.aload_n 0, 1) := by decide +kernel
theorem dX3_distanceFrom_7 : decode cX3_distanceFrom 7 = .ok (.iload_n 1, 1) := by decide +kernel
theorem dX3_distanceFrom_8 : decode cX3_distanceFrom 8 = .ok (.iload_n 2, 1) := by decide +kernel
theorem dX3_distanceFrom_9 : decode cX3_distanceFrom 9 = .ok (.invokevirtual 69, 3) := by decide +kernel
theorem dX3_distanceFrom_12 : decode cX3_distanceFrom 12 = .ok (.invokestatic 72, 3) := by decide +kernel
theorem dX3_distanceFrom_15 : decode cX3_distanceFrom 15 = .ok (.ireturn, 1) := by decide +kernel
theorem dX3_hasPartIn_0 : decode cX3_hasPartIn 0 = .ok (.aload_n 0, 1) := by decide +kernel
theorem dX3_hasPartIn_1 : decode cX3_hasPartIn 1 = .ok (.getfield 23, 3) := by decide +kernel
theorem dX3_hasPartIn_4 : decode cX3_hasPartIn 4 = .ok (.aload_n 1, 1) := by decide +kernel
theorem dX3_hasPartIn_5 : decode cX3_hasPartIn 5 = .ok (.getfield 77, 3) := by decide +kernel
theorem dX3_hasPartIn_8 : decode cX3_hasPartIn 8 = .ok (.if_icmp .gt 40, 3) := by decide +kernel
theorem dX3_hasPartIn_11 : decode cX3_hasPartIn 11 = .ok (.aload_n 0, 1) := by decide +kernel
theorem dX3_hasPartIn_12 : decode cX3_hasPartIn 12 = .ok (.getfield 29, 3) := by decide +kernel
theorem dX3_hasPartIn_15 : decode cX3_hasPartIn 15 = .ok (.aload_n 1, 1) := by decide +kernel
theorem dX3_hasPartIn_16 : decode cX3_hasPartIn 16 = .ok (.getfield 82, 3) := by decide +kernel
theorem dX3_hasPartIn_19 : decode cX3_hasPartIn 19 = .ok (.if_icmp .lt 29, 3) := by decide +kernel
theorem dX3_hasPartIn_22 : decode cX3_hasPartIn 22 = .ok (.aload_n 0, 1) := by decide +kernel
theorem dX3_hasPartIn_23 : decode cX3_hasPartIn 23 = .ok (.getfield 26, 3) := by decide +kernel
theorem dX3_hasPartIn_26 : decode cX3_hasPartIn 26 = .ok (.aload_n 1, 1) := by decide +kernel
theorem dX3_hasPartIn_27 : decode cX3_hasPartIn 27 = .ok (.getfield 85, 3) := by decide +kernel
theorem dX3_hasPartIn_30 : decode cX3_hasPartIn 30 = .ok (.if_icmp .gt 18, 3) := by decide +kernel
theorem dX3_hasPartIn_33 : decode cX3_hasPartIn 33 = .ok (.aload_n 0, 1) := by decide +kernel
theorem dX3_hasPartIn_34 : decode cX3_hasPartIn 34 = .ok (.getfield 32, 3) := by decide +kernel
theorem dX3_hasPartIn_37 : decode cX3_hasPartIn 37 = .ok (.aload_n 1, 1) := by decide +kernel
theorem dX3_hasPartIn_38 : decode cX3_hasPartIn 38 = .ok (.getfield 88, 3) := by decide +kernel
theorem dX3_hasPartIn_41 : decode cX3_hasPartIn 41 = .ok (.if_icmp .lt 7, 3) := by decide +kernel
theorem dX3_hasPartIn_44 : decode cX3_hasPartIn 44 = .ok (.iconst 1, 1) := by decide +kernel
theorem dX3_hasPartIn_45 : decode cX3_hasPartIn 45 = .ok (.goto 4, 3) := by decide +kernel
theorem dX3_hasPartIn_48 : decode cX3_hasPartIn 48 = .ok (.iconst 0, 1) := by decide +kernel
theorem dX3_hasPartIn_49 : decode cX3_hasPartIn 49 = .ok (.ireturn, 1) := by decide +kernel
set_option maxRecDepth 20000 in
theorem ggX3_shownIn_X3_hasPartIn : GoodIn wsX3_shownIn wsX3_hasPartIn := goodIn_r _ [9, 10, 11, 12, 13, 14, 15, 16, 17, 26, 27, 28, 29, 30, 31, 32, 33, 38, 39, 40, 41, 42, 43, 44] (by decide +kernel) (by decide +kernel)
set_option maxRecDepth 20000 in
theorem gX3_shownIn_X3_hasPartIn : GoodIn wsX3_shownIn (wsV RX3 91 RX3 yX3_hasPartIn wsX3_hasPartIn) := goodIn_app (goodIn_of _ (by decide +kernel)) ggX3_shownIn_X3_hasPartIn
set_option maxRecDepth 20000 in
theorem ggX3_shownIn_X1_shows : GoodIn wsX3_shownIn wsX1_shows := goodIn_r _ [22, 23, 24, 25, 34, 35, 36, 37, 45, 46, 47, 38, 39, 40, 41, 42, 43, 44] (by decide +kernel) (by decide +kernel)
set_option maxRecDepth 20000 in
theorem gX3_shownIn_X1_shows : GoodIn wsX3_shownIn (wsV RX3 101 RX1 yX1_shows wsX1_shows) := goodIn_app (goodIn_of _ (by decide +kernel)) ggX3_shownIn_X1_shows
theorem dX3_shownIn_0 : decode cX3_shownIn 0 = .ok (.aload_n 0, 1) := by decide +kernel
theorem dX3_shownIn_1 : decode cX3_shownIn 1 = .ok (.aload_n 1, 1) := by decide +kernel
theorem dX3_shownIn_2 : decode cX3_shownIn 2 = .ok (.invokevirtual 91, 3) := by decide +kernel
theorem dX3_shownIn_5 : decode cX3_shownIn 5 = .ok (.ifCond .ne 5, 3) := by decide +kernel
theorem dX3_shownIn_8 : decode cX3_shownIn 8 = .ok (.aconst_null, 1) := by decide +kernel
theorem dX3_shownIn_9 : decode cX3_shownIn 9 = .ok (.areturn, 1) := by decide +kernel
theorem dX3_shownIn_10 : decode cX3_shownIn 10 = .ok (.aload_n 0, 1) := by decide +kernel
theorem dX3_shownIn_11 : decode cX3_shownIn 11 = .ok (.getfield 35, 3) := by decide +kernel
theorem dX3_shownIn_14 : decode cX3_shownIn 14 = .ok (.astore_n 3, 1) := by decide +kernel
theorem dX3_shownIn_15 : decode cX3_shownIn 15 = .ok (.aload_n 3, 1) := by decide +kernel
theorem dX3_shownIn_16 : decode cX3_shownIn 16 = .ok (.ifnull 19, 3) := by decide +kernel
theorem dX3_shownIn_19 : decode cX3_shownIn 19 = .ok (.aload_n 3, 1) := by decide +kernel
theorem dX3_shownIn_20 : decode cX3_shownIn 20 = .ok (.getfield 95, 3) := by decide +kernel
theorem dX3_shownIn_23 : decode cX3_shownIn 23 = .ok (.iload_n 2, 1) := by decide +kernel
theorem dX3_shownIn_24 : decode cX3_shownIn 24 = .ok (.if_icmp .le 11, 3) := by decide +kernel
theorem dX3_shownIn_27 : decode cX3_shownIn 27 = .ok (.aload_n 3, 1) := by decide +kernel
theorem dX3_shownIn_28 : decode cX3_shownIn 28 = .ok (.getfield 98, 3) := by decide +kernel
theorem dX3_shownIn_31 : decode cX3_shownIn 31 = .ok (.astore_n 3, 1) := by decide +kernel
theorem dX3_shownIn_32 : decode cX3_shownIn 32 = .ok (.goto (-17), 3) := by decide +kernel
theorem dX3_shownIn_35 : decode cX3_shownIn 35 = .ok (.aload_n 3, 1) := by decide +kernel
theorem dX3_shownIn_36 : decode cX3_shownIn 36 = .ok (.ifnull 18, 3) := by decide +kernel
theorem dX3_shownIn_39 : decode cX3_shownIn 39 = .ok (.aload_n 1, 1) := by decide +kernel
theorem dX3_shownIn_40 : decode cX3_shownIn 40 = .ok (.aload_n 3, 1) := by decide +kernel
theorem dX3_shownIn_41 : decode cX3_shownIn 41 = .ok (.invokevirtual 101, 3) := by decide +kernel
theorem dX3_shownIn_44 : decode cX3_shownIn 44 = .ok (.ifCond .eq 10, 3) := by decide +kernel
theorem dX3_shownIn_47 : decode cX3_shownIn 47 = .ok (.aload_n 3, 1) := by decide +kernel
theorem dX3_shownIn_48 : decode cX3_shownIn 48 = .ok (.getfield 45, 3) := by decide +kernel
theorem dX3_shownIn_51 : decode cX3_shownIn 51 = .ok (.goto 4, 3) := by decide +kernel
theorem dX3_shownIn_54 : decode cX3_shownIn 54 = .ok (.aconst_null, 1) := by decide +kernel
theorem dX3_shownIn_55 : decode cX3_shownIn 55 = .ok (.areturn, 1) := by decide +kernel
set_option maxRecDepth 20000 in
theorem ggX3_outdates_X3_hasPartIn : GoodIn wsX3_outdates wsX3_hasPartIn := goodIn_r _ [9, 10, 11, 12, 13, 14, 15, 16, 17, 26, 27, 28, 29, 30, 31, 32, 33, 38, 39, 40, 41, 42, 43, 44] (by decide +kernel) (by decide +kernel)
set_option maxRecDepth 20000 in
theorem gX3_outdates_X3_hasPartIn : GoodIn wsX3_outdates (wsV RX3 91 RX3 yX3_hasPartIn wsX3_hasPartIn) := goodIn_app (goodIn_of _ (by decide +kernel)) ggX3_outdates_X3_hasPartIn
set_option maxRecDepth 20000 in
theorem ggX3_outdates_X1_shows : GoodIn wsX3_outdates wsX1_shows := goodIn_r _ [22, 23, 24, 25, 34, 35, 36, 37, 45, 46, 47, 38, 39, 40, 41, 42, 43, 44] (by decide +kernel) (by decide +kernel)
set_option maxRecDepth 20000 in
theorem gX3_outdates_X1_shows : GoodIn wsX3_outdates (wsV RX3 101 RX1 yX1_shows wsX1_shows) := goodIn_app (goodIn_of _ (by decide +kernel)) ggX3_outdates_X1_shows
theorem dX3_outdates_0 : decode cX3_outdates 0 = .ok (.aload_n 0, 1) := by decide +kernel
theorem dX3_outdates_1 : decode cX3_outdates 1 = .ok (.aload_n 1, 1) := by decide +kernel
theorem dX3_outdates_2 : decode cX3_outdates 2 = .ok (.invokevirtual 91, 3) := by decide +kernel
theorem dX3_outdates_5 : decode cX3_outdates 5 = .ok (.ifCond .ne 5, 3) := by decide +kernel
theorem dX3_outdates_8 : decode cX3_outdates 8 = .ok (.iconst 0, 1) := by decide +kernel
theorem dX3_outdates_9 : decode cX3_outdates 9 = .ok (.ireturn, 1) := by decide +kernel
theorem dX3_outdates_10 : decode cX3_outdates 10 = .ok (.aload_n 0, 1) := by decide +kernel
theorem dX3_outdates_11 : decode cX3_outdates 11 = .ok (.getfield 35, 3) := by decide +kernel
theorem dX3_outdates_14 : decode cX3_outdates 14 = .ok (.astore_n 2, 1) := by decide +kernel
theorem dX3_outdates_15 : decode cX3_outdates 15 = .ok (.aload_n 2, 1) := by decide +kernel
theorem dX3_outdates_16 : decode cX3_outdates 16 = .ok (.ifnull 43, 3) := by decide +kernel
theorem dX3_outdates_19 : decode cX3_outdates 19 = .ok (.aload_n 2, 1) := by decide +kernel
theorem dX3_outdates_20 : decode cX3_outdates 20 = .ok (.getfield 95, 3) := by decide +kernel
theorem dX3_outdates_23 : decode cX3_outdates 23 = .ok (.aload_n 1, 1) := by decide +kernel
theorem dX3_outdates_24 : decode cX3_outdates 24 = .ok (.getfield 105, 3) := by decide +kernel
theorem dX3_outdates_27 : decode cX3_outdates 27 = .ok (.if_icmp .le 32, 3) := by decide +kernel
theorem dX3_outdates_30 : decode cX3_outdates 30 = .ok (.aload_n 1, 1) := by decide +kernel
theorem dX3_outdates_31 : decode cX3_outdates 31 = .ok (.aload_n 2, 1) := by decide +kernel
theorem dX3_outdates_32 : decode cX3_outdates 32 = .ok (.invokevirtual 101, 3) := by decide +kernel
theorem dX3_outdates_35 : decode cX3_outdates 35 = .ok (.ifCond .ne 14, 3) := by decide +kernel
theorem dX3_outdates_38 : decode cX3_outdates 38 = .ok (.aload_n 1, 1) := by decide +kernel
theorem dX3_outdates_39 : decode cX3_outdates 39 = .ok (.aload_n 2, 1) := by decide +kernel
theorem dX3_outdates_40 : decode cX3_outdates 40 = .ok (.getfield 98, 3) := by decide +kernel
theorem dX3_outdates_43 : decode cX3_outdates 43 = .ok (.invokevirtual 101, 3) := by decide +kernel
theorem dX3_outdates_46 : decode cX3_outdates 46 = .ok (.ifCond .eq 5, 3) := by decide +kernel
theorem dX3_outdates_49 : decode cX3_outdates 49 = .ok (.iconst 1, 1) := by decide +kernel
theorem dX3_outdates_50 : decode cX3_outdates 50 = .ok (.ireturn, 1) := by decide +kernel
theorem dX3_outdates_51 : decode cX3_outdates 51 = .ok (.aload_n 2, 1) := by decide +kernel
theorem dX3_outdates_52 : decode cX3_outdates 52 = .ok (.getfield 98, 3) := by decide +kernel
theorem dX3_outdates_55 : decode cX3_outdates 55 = .ok (.astore_n 2, 1) := by decide +kernel
theorem dX3_outdates_56 : decode cX3_outdates 56 = .ok (.goto (-41), 3) := by decide +kernel
theorem dX3_outdates_59 : decode cX3_outdates 59 = .ok (.iconst 0, 1) := by decide +kernel
theorem dX3_outdates_60 : decode cX3_outdates 60 = .ok (.ireturn, 1) := by decide +kernel
theorem dX3_keepSighting_0 : decode cX3_keepSighting 0 = .ok (.iconst 0, 1) := by decide +kernel
theorem dX3_keepSighting_1 : decode cX3_keepSighting 1 = .ok (.istore 4, 2) := by decide +kernel
theorem dX3_keepSighting_3 : decode cX3_keepSighting 3 = .ok (.iload 4, 2) := by decide +kernel
theorem dX3_keepSighting_5 : decode cX3_keepSighting 5 = .ok (.aload_n 0, 1) := by decide +kernel
theorem dX3_keepSighting_6 : decode cX3_keepSighting 6 = .ok (.getfield 19, 3) := by decide +kernel
theorem dX3_keepSighting_9 : decode cX3_keepSighting 9 = .ok (.arraylength, 1) := by decide +kernel
theorem dX3_keepSighting_10 : decode cX3_keepSighting 10 = .ok (.if_icmp .ge 36, 3) := by decide +kernel
theorem dX3_keepSighting_13 : decode cX3_keepSighting 13 = .ok (.iload 4, 2) := by decide +kernel
theorem dX3_keepSighting_15 : decode cX3_keepSighting 15 = .ok (.iconst 3, 1) := by decide +kernel
theorem dX3_keepSighting_16 : decode cX3_keepSighting 16 = .ok (.irem, 1) := by decide +kernel
theorem dX3_keepSighting_17 : decode cX3_keepSighting 17 = .ok (.iload_n 2, 1) := by decide +kernel
theorem dX3_keepSighting_18 : decode cX3_keepSighting 18 = .ok (.if_icmp .eq 22, 3) := by decide +kernel
theorem dX3_keepSighting_21 : decode cX3_keepSighting 21 = .ok (.aload_n 0, 1) := by decide +kernel
theorem dX3_keepSighting_22 : decode cX3_keepSighting 22 = .ok (.getfield 19, 3) := by decide +kernel
theorem dX3_keepSighting_25 : decode cX3_keepSighting 25 = .ok (.iload 4, 2) := by decide +kernel
theorem dX3_keepSighting_27 : decode cX3_keepSighting 27 = .ok (.iaload, 1) := by decide +kernel
theorem dX3_keepSighting_28 : decode cX3_keepSighting 28 = .ok (.iload_n 3, 1) := by decide +kernel
theorem dX3_keepSighting_29 : decode cX3_keepSighting 29 = .ok (.if_icmp .le 11, 3) := by decide +kernel
theorem dX3_keepSighting_32 : decode cX3_keepSighting 32 = .ok (.aload_n 0, 1) := by decide +kernel
theorem dX3_keepSighting_33 : decode cX3_keepSighting 33 = .ok (.getfield 19, 3) := by decide +kernel
theorem dX3_keepSighting_36 : decode cX3_keepSighting 36 = .ok (.iload 4, 2) := by decide +kernel
theorem dX3_keepSighting_38 : decode cX3_keepSighting 38 = .ok (.iconst (-1), 1) := by decide +kernel
theorem dX3_keepSighting_39 : decode cX3_keepSighting 39 = .ok (.iastore, 1) := by decide +kernel
theorem dX3_keepSighting_40 : decode cX3_keepSighting 40 = .ok (.iinc 4 1, 3) := by decide +kernel
theorem dX3_keepSighting_43 : decode cX3_keepSighting 43 = .ok (.goto (-40), 3) := by decide +kernel
theorem dX3_keepSighting_46 : decode cX3_keepSighting 46 = .ok (.aload_n 0, 1) := by decide +kernel
theorem dX3_keepSighting_47 : decode cX3_keepSighting 47 = .ok (.getfield 19, 3) := by decide +kernel
theorem dX3_keepSighting_50 : decode cX3_keepSighting 50 = .ok (.iload_n 1, 1) := by decide +kernel
theorem dX3_keepSighting_51 : decode cX3_keepSighting 51 = .ok (.iconst 3, 1) := by decide +kernel
theorem dX3_keepSighting_52 : decode cX3_keepSighting 52 = .ok (.imul, 1) := by decide +kernel
theorem dX3_keepSighting_53 : decode cX3_keepSighting 53 = .ok (.iload_n 2, 1) := by decide +kernel
theorem dX3_keepSighting_54 : decode cX3_keepSighting 54 = .ok (.iadd, 1) := by decide +kernel
theorem dX3_keepSighting_55 : decode cX3_keepSighting 55 = .ok (.iload_n 3, 1) := by decide +kernel
theorem dX3_keepSighting_56 : decode cX3_keepSighting 56 = .ok (.iastore, 1) := by decide +kernel
theorem dX3_keepSighting_57 : decode cX3_keepSighting 57 = .ok (.return_, 1) := by decide +kernel
theorem dX3_hasAgreementOn_0 : decode cX3_hasAgreementOn 0 = .ok (.iload_n 1, 1) := by decide +kernel
theorem dX3_hasAgreementOn_1 : decode cX3_hasAgreementOn 1 = .ok (.istore_n 2, 1) := by decide +kernel
theorem dX3_hasAgreementOn_2 : decode cX3_hasAgreementOn 2 = .ok (.iload_n 2, 1) := by decide +kernel
theorem dX3_hasAgreementOn_3 : decode cX3_hasAgreementOn 3 = .ok (.aload_n 0, 1) := by decide +kernel
theorem dX3_hasAgreementOn_4 : decode cX3_hasAgreementOn 4 = .ok (.getfield 19, 3) := by decide +kernel
theorem dX3_hasAgreementOn_7 : decode cX3_hasAgreementOn 7 = .ok (.arraylength, 1) := by decide +kernel
theorem dX3_hasAgreementOn_8 : decode cX3_hasAgreementOn 8 = .ok (.if_icmp .ge 71, 3) := by decide +kernel
theorem dX3_hasAgreementOn_11 : decode cX3_hasAgreementOn 11 = .ok (.iload_n 2, 1) := by decide +kernel
theorem dX3_hasAgreementOn_12 : decode cX3_hasAgreementOn 12 = .ok (.iconst 3, 1) := by decide +kernel
theorem dX3_hasAgreementOn_13 : decode cX3_hasAgreementOn 13 = .ok (.iadd, 1) := by decide +kernel
theorem dX3_hasAgreementOn_14 : decode cX3_hasAgreementOn 14 = .ok (.istore_n 3, 1) := by decide +kernel
theorem dX3_hasAgreementOn_15 : decode cX3_hasAgreementOn 15 = .ok (.iload_n 3, 1) := by decide +kernel
theorem dX3_hasAgreementOn_16 : decode cX3_hasAgreementOn 16 = .ok (.aload_n 0, 1) := by decide +kernel
theorem dX3_hasAgreementOn_17 : decode cX3_hasAgreementOn 17 = .ok (.getfield 19, 3) := by decide +kernel
theorem dX3_hasAgreementOn_20 : decode cX3_hasAgreementOn 20 = .ok (.arraylength, 1) := by decide +kernel
theorem dX3_hasAgreementOn_21 : decode cX3_hasAgreementOn 21 = .ok (.if_icmp .ge 52, 3) := by decide +kernel
theorem dX3_hasAgreementOn_24 : decode cX3_hasAgreementOn 24 = .ok (.aload_n 0, 1) := by decide +kernel
theorem dX3_hasAgreementOn_25 : decode cX3_hasAgreementOn 25 = .ok (.getfield 19, 3) := by decide +kernel
theorem dX3_hasAgreementOn_28 : decode cX3_hasAgreementOn 28 = .ok (.iload_n 2, 1) := by decide +kernel
theorem dX3_hasAgreementOn_29 : decode cX3_hasAgreementOn 29 = .ok (.iaload, 1) := by decide +kernel
theorem dX3_hasAgreementOn_30 : decode cX3_hasAgreementOn 30 = .ok (.iconst (-1), 1) := by decide +kernel
theorem dX3_hasAgreementOn_31 : decode cX3_hasAgreementOn 31 = .ok (.if_icmp .eq 36, 3) := by decide +kernel
theorem dX3_hasAgreementOn_34 : decode cX3_hasAgreementOn 34 = .ok (.aload_n 0, 1) := by decide +kernel
theorem dX3_hasAgreementOn_35 : decode cX3_hasAgreementOn 35 = .ok (.getfield 19, 3) := by decide +kernel
theorem dX3_hasAgreementOn_38 : decode cX3_hasAgreementOn 38 = .ok (.iload_n 3, 1) := by decide +kernel
theorem dX3_hasAgreementOn_39 : decode cX3_hasAgreementOn 39 = .ok (.iaload, 1) := by decide +kernel
theorem dX3_hasAgreementOn_40 : decode cX3_hasAgreementOn 40 = .ok (.iconst (-1), 1) := by decide +kernel
theorem dX3_hasAgreementOn_41 : decode cX3_hasAgreementOn 41 = .ok (.if_icmp .eq 26, 3) := by decide +kernel
theorem dX3_hasAgreementOn_44 : decode cX3_hasAgreementOn 44 = .ok (.aload_n 0, 1) := by decide +kernel
theorem dX3_hasAgreementOn_45 : decode cX3_hasAgreementOn 45 = .ok (.getfield 19, 3) := by decide +kernel
theorem dX3_hasAgreementOn_48 : decode cX3_hasAgreementOn 48 = .ok (.iload_n 2, 1) := by decide +kernel
theorem dX3_hasAgreementOn_49 : decode cX3_hasAgreementOn 49 = .ok (.iaload, 1) := by decide +kernel
theorem dX3_hasAgreementOn_50 : decode cX3_hasAgreementOn 50 = .ok (.aload_n 0, 1) := by decide +kernel
theorem dX3_hasAgreementOn_51 : decode cX3_hasAgreementOn 51 = .ok (.getfield 19, 3) := by decide +kernel
theorem dX3_hasAgreementOn_54 : decode cX3_hasAgreementOn 54 = .ok (.iload_n 3, 1) := by decide +kernel
theorem dX3_hasAgreementOn_55 : decode cX3_hasAgreementOn 55 = .ok (.iaload, 1) := by decide +kernel
theorem dX3_hasAgreementOn_56 : decode cX3_hasAgreementOn 56 = .ok (.imul, 1) := by decide +kernel
theorem dX3_hasAgreementOn_57 : decode cX3_hasAgreementOn 57 = .ok (.bipush 100, 2) := by decide +kernel
theorem dX3_hasAgreementOn_59 : decode cX3_hasAgreementOn 59 = .ok (.idiv, 1) := by decide +kernel
theorem dX3_hasAgreementOn_60 : decode cX3_hasAgreementOn 60 = .ok (.bipush 20, 2) := by decide +kernel
theorem dX3_hasAgreementOn_62 : decode cX3_hasAgreementOn 62 = .ok (.if_icmp .gt 5, 3) := by decide +kernel
theorem dX3_hasAgreementOn_65 : decode cX3_hasAgreementOn 65 = .ok (.iconst 1, 1) := by decide +kernel
theorem dX3_hasAgreementOn_66 : decode cX3_hasAgreementOn 66 = .ok (.ireturn, 1) := by decide +kernel
theorem dX3_hasAgreementOn_67 : decode cX3_hasAgreementOn 67 = .ok (.iinc 3 3, 3) := by decide +kernel
theorem dX3_hasAgreementOn_70 : decode cX3_hasAgreementOn 70 = .ok (.goto (-55), 3) := by decide +kernel
theorem dX3_hasAgreementOn_73 : decode cX3_hasAgreementOn 73 = .ok (.iinc 2 3, 3) := by decide +kernel
theorem dX3_hasAgreementOn_76 : decode cX3_hasAgreementOn 76 = .ok (.goto (-74), 3) := by decide +kernel
theorem dX3_hasAgreementOn_79 : decode cX3_hasAgreementOn 79 = .ok (.iconst 0, 1) := by decide +kernel
theorem dX3_hasAgreementOn_80 : decode cX3_hasAgreementOn 80 = .ok (.ireturn, 1) := by decide +kernel
set_option maxRecDepth 20000 in
theorem ggX3_forgetSightings_J7_fill_53178 : GoodIn wsX3_forgetSightings wsJ7_fill_53178 := goodIn_r _ [5] (by decide +kernel) (by decide +kernel)
set_option maxRecDepth 20000 in
theorem gX3_forgetSightings_J7_fill_53178 : GoodIn wsX3_forgetSightings (va_wsS RX3 39 yJ7_fill_53178 wsJ7_fill_53178) := goodIn_app (goodIn_of _ (by decide +kernel)) ggX3_forgetSightings_J7_fill_53178
theorem dX3_forgetSightings_0 : decode cX3_forgetSightings 0 = .ok (.aload_n 0, 1) := by decide +kernel
theorem dX3_forgetSightings_1 : decode cX3_forgetSightings 1 = .ok (.getfield 19, 3) := by decide +kernel
theorem dX3_forgetSightings_4 : decode cX3_forgetSightings 4 = .ok (.iconst (-1), 1) := by decide +kernel
theorem dX3_forgetSightings_5 : decode cX3_forgetSightings 5 = .ok (.invokestatic 39, 3) := by decide +kernel
theorem dX3_forgetSightings_8 : decode cX3_forgetSightings 8 = .ok (.return_, 1) := by decide +kernel
theorem dX3_countSightings_0 : decode cX3_countSightings 0 = .ok (.iconst 0, 1) := by decide +kernel
theorem dX3_countSightings_1 : decode cX3_countSightings 1 = .ok (.istore_n 1, 1) := by decide +kernel
theorem dX3_countSightings_2 : decode cX3_countSightings 2 = .ok (.iconst 0, 1) := by decide +kernel
theorem dX3_countSightings_3 : decode cX3_countSightings 3 = .ok (.istore_n 2, 1) := by decide +kernel
theorem dX3_countSightings_4 : decode cX3_countSightings 4 = .ok (.iload_n 2, 1) := by decide +kernel
theorem dX3_countSightings_5 : decode cX3_countSightings 5 = .ok (.aload_n 0, 1) := by decide +kernel
theorem dX3_countSightings_6 : decode cX3_countSightings 6 = .ok (.getfield 19, 3) := by decide +kernel
theorem dX3_countSightings_9 : decode cX3_countSightings 9 = .ok (.arraylength, 1) := by decide +kernel
theorem dX3_countSightings_10 : decode cX3_countSightings 10 = .ok (.if_icmp .ge 22, 3) := by decide +kernel
theorem dX3_countSightings_13 : decode cX3_countSightings 13 = .ok (.aload_n 0, 1) := by decide +kernel
theorem dX3_countSightings_14 : decode cX3_countSightings 14 = .ok (.getfield 19, 3) := by decide +kernel
theorem dX3_countSightings_17 : decode cX3_countSightings 17 = .ok (.iload_n 2, 1) := by decide +kernel
theorem dX3_countSightings_18 : decode cX3_countSightings 18 = .ok (.iaload, 1) := by decide +kernel
theorem dX3_countSightings_19 : decode cX3_countSightings 19 = .ok (.iconst (-1), 1) := by decide +kernel
theorem dX3_countSightings_20 : decode cX3_countSightings 20 = .ok (.if_icmp .eq 6, 3) := by decide +kernel
theorem dX3_countSightings_23 : decode cX3_countSightings 23 = .ok (.iinc 1 1, 3) := by decide +kernel
theorem dX3_countSightings_26 : decode cX3_countSightings 26 = .ok (.iinc 2 1, 3) := by decide +kernel
theorem dX3_countSightings_29 : decode cX3_countSightings 29 = .ok (.goto (-25), 3) := by decide +kernel
theorem dX3_countSightings_32 : decode cX3_countSightings 32 = .ok (.iload_n 1, 1) := by decide +kernel
theorem dX3_countSightings_33 : decode cX3_countSightings 33 = .ok (.ireturn, 1) := by decide +kernel
set_option maxRecDepth 20000 in
theorem ggX3_dearness_X3_direction : GoodIn wsX3_dearness wsX3_direction := goodIn_r _ [6, 7, 8, 9, 15, 16, 17, 18, 19, 20, 21, 22, 23, 24, 25, 26, 27, 28, 29] (by decide +kernel) (by decide +kernel)
set_option maxRecDepth 20000 in
theorem gX3_dearness_X3_direction : GoodIn wsX3_dearness (wsV RX3 106 RX3 yX3_direction wsX3_direction) := goodIn_app (goodIn_of _ (by decide +kernel)) ggX3_dearness_X3_direction
set_option maxRecDepth 20000 in
theorem ggX3_dearness_X3_kind : GoodIn wsX3_dearness wsX3_kind := goodIn_r _ [13, 7, 8, 14, 15, 16, 17, 18, 19, 20, 21, 22, 23, 24, 25, 26, 27, 28, 29] (by decide +kernel) (by decide +kernel)
set_option maxRecDepth 20000 in
theorem gX3_dearness_X3_kind : GoodIn wsX3_dearness (wsV RX3 109 RX3 yX3_kind wsX3_kind) := goodIn_app (goodIn_of _ (by decide +kernel)) ggX3_dearness_X3_kind
theorem dX3_dearness_0 : decode cX3_dearness 0 = .ok (.iconst (-1), 1) := by decide +kernel
theorem dX3_dearness_1 : decode cX3_dearness 1 = .ok (.istore_n 1, 1) := by decide +kernel
theorem dX3_dearness_2 : decode cX3_dearness 2 = .ok (.iconst 0, 1) := by decide +kernel
theorem dX3_dearness_3 : decode cX3_dearness 3 = .ok (.istore_n 2, 1) := by decide +kernel
theorem dX3_dearness_4 : decode cX3_dearness 4 = .ok (.iload_n 2, 1) := by decide +kernel
theorem dX3_dearness_5 : decode cX3_dearness 5 = .ok (.aload_n 0, 1) := by decide +kernel
theorem dX3_dearness_6 : decode cX3_dearness 6 = .ok (.getfield 19, 3) := by decide +kernel
theorem dX3_dearness_9 : decode cX3_dearness 9 = .ok (.arraylength, 1) := by decide +kernel
theorem dX3_dearness_10 : decode cX3_dearness 10 = .ok (.if_icmp .ge 61, 3) := by decide +kernel
theorem dX3_dearness_13 : decode cX3_dearness 13 = .ok (.iload_n 2, 1) := by decide +kernel
theorem dX3_dearness_14 : decode cX3_dearness 14 = .ok (.iconst 3, 1) := by decide +kernel
theorem dX3_dearness_15 : decode cX3_dearness 15 = .ok (.irem, 1) := by decide +kernel
theorem dX3_dearness_16 : decode cX3_dearness 16 = .ok (.aload_n 0, 1) := by decide +kernel
theorem dX3_dearness_17 : decode cX3_dearness 17 = .ok (.invokevirtual 106, 3) := by decide +kernel
theorem dX3_dearness_20 : decode cX3_dearness 20 = .ok (.if_icmp .eq 7, 3) := by decide +kernel
theorem dX3_dearness_23 : decode cX3_dearness 23 = .ok (.iconst 1, 1) := by decide +kernel
theorem dX3_dearness_24 : decode cX3_dearness 24 = .ok (.goto 4, 3) := by decide +kernel
theorem dX3_dearness_27 : decode cX3_dearness 27 = .ok (.iconst 0, 1) := by decide +kernel
theorem dX3_dearness_28 : decode cX3_dearness 28 = .ok (.istore_n 3, 1) := by decide +kernel
theorem dX3_dearness_29 : decode cX3_dearness 29 = .ok (.iload_n 3, 1) := by decide +kernel
theorem dX3_dearness_30 : decode cX3_dearness 30 = .ok (.ifCond .eq 35, 3) := by decide +kernel
theorem dX3_dearness_33 : decode cX3_dearness 33 = .ok (.aload_n 0, 1) := by decide +kernel
theorem dX3_dearness_34 : decode cX3_dearness 34 = .ok (.getfield 19, 3) := by decide +kernel
theorem dX3_dearness_37 : decode cX3_dearness 37 = .ok (.iload_n 2, 1) := by decide +kernel
theorem dX3_dearness_38 : decode cX3_dearness 38 = .ok (.iaload, 1) := by decide +kernel
theorem dX3_dearness_39 : decode cX3_dearness 39 = .ok (.iconst (-1), 1) := by decide +kernel
theorem dX3_dearness_40 : decode cX3_dearness 40 = .ok (.if_icmp .eq 25, 3) := by decide +kernel
theorem dX3_dearness_43 : decode cX3_dearness 43 = .ok (.iload_n 1, 1) := by decide +kernel
theorem dX3_dearness_44 : decode cX3_dearness 44 = .ok (.iconst (-1), 1) := by decide +kernel
theorem dX3_dearness_45 : decode cX3_dearness 45 = .ok (.if_icmp .eq 13, 3) := by decide +kernel
theorem dX3_dearness_48 : decode cX3_dearness 48 = .ok (.aload_n 0, 1) := by decide +kernel
theorem dX3_dearness_49 : decode cX3_dearness 49 = .ok (.getfield 19, 3) := by decide +kernel
theorem dX3_dearness_52 : decode cX3_dearness 52 = .ok (.iload_n 2, 1) := by decide +kernel
theorem dX3_dearness_53 : decode cX3_dearness 53 = .ok (.iaload, 1) := by decide +kernel
theorem dX3_dearness_54 : decode cX3_dearness 54 = .ok (.iload_n 1, 1) := by decide +kernel
theorem dX3_dearness_55 : decode cX3_dearness 55 = .ok (.if_icmp .ge 10, 3) := by decide +kernel
theorem dX3_dearness_58 : decode cX3_dearness 58 = .ok (.aload_n 0, 1) := by decide +kernel
theorem dX3_dearness_59 : decode cX3_dearness 59 = .ok (.getfield 19, 3) := by decide +kernel
theorem dX3_dearness_62 : decode cX3_dearness 62 = .ok (.iload_n 2, 1) := by decide +kernel
theorem dX3_dearness_63 : decode cX3_dearness 63 = .ok (.iaload, 1) := by decide +kernel
theorem dX3_dearness_64 : decode cX3_dearness 64 = .ok (.istore_n 1, 1) := by decide +kernel
theorem dX3_dearness_65 : decode cX3_dearness 65 = .ok (.iinc 2 1, 3) := by decide +kernel
theorem dX3_dearness_68 : decode cX3_dearness 68 = .ok (.goto (-64), 3) := by decide +kernel
theorem dX3_dearness_71 : decode cX3_dearness 71 = .ok (.iload_n 1, 1) := by decide +kernel
theorem dX3_dearness_72 : decode cX3_dearness 72 = .ok (.iconst (-1), 1) := by decide +kernel
theorem dX3_dearness_73 : decode cX3_dearness 73 = .ok (.if_icmp .ne 7, 3) := by decide +kernel
theorem dX3_dearness_76 : decode cX3_dearness 76 = .ok (.iconst 0, 1) := by decide +kernel
theorem dX3_dearness_77 : decode cX3_dearness 77 = .ok (.goto 14, 3) := by decide +kernel
theorem dX3_dearness_80 : decode cX3_dearness 80 = .ok (.bipush 100, 2) := by decide +kernel
theorem dX3_dearness_82 : decode cX3_dearness 82 = .ok (.iload_n 1, 1) := by decide +kernel
theorem dX3_dearness_83 : decode cX3_dearness 83 = .ok (.isub, 1) := by decide +kernel
theorem dX3_dearness_84 : decode cX3_dearness 84 = .ok (.aload_n 0, 1) := by decide +kernel
theorem dX3_dearness_85 : decode cX3_dearness 85 = .ok (.invokevirtual 109, 3) := by decide +kernel
theorem dX3_dearness_88 : decode cX3_dearness 88 = .ok (.iconst 1, 1) := by decide +kernel
theorem dX3_dearness_89 : decode cX3_dearness 89 = .ok (.iadd, 1) := by decide +kernel
theorem dX3_dearness_90 : decode cX3_dearness 90 = .ok (.imul, 1) := by decide +kernel
theorem dX3_dearness_91 : decode cX3_dearness 91 = .ok (.ireturn, 1) := by decide +kernel
