set_option maxRecDepth 20000 in
theorem ggX4_init_Jx4a65c_init_da8c8 : GoodIn wsX4_init wsJx4a65c_init_da8c8 := goodIn_r _ [17, 18, 19, 20, 21, 22, 23, 24, 25, 26, 27, 28, 29, 2, 3, 34, 35, 36] (by decide +kernel) (by decide +kernel)
set_option maxRecDepth 20000 in
theorem gX4_init_Jx4a65c_init_da8c8 : GoodIn wsX4_init (wsJx4a65c_init_da8c8) := ggX4_init_Jx4a65c_init_da8c8
set_option maxRecDepth 20000 in
theorem ggX4_init_J7_fill_53178 : GoodIn wsX4_init wsJ7_fill_53178 := goodIn_r _ [33] (by decide +kernel) (by decide +kernel)
set_option maxRecDepth 20000 in
theorem gX4_init_J7_fill_53178 : GoodIn wsX4_init (va_wsS RX4 36 yJ7_fill_53178 wsJ7_fill_53178) := goodIn_app (goodIn_of _ (by decide +kernel)) ggX4_init_J7_fill_53178
theorem dX4_init_0 : decode cX4_init 0 = .ok (.aload_n 0, 1) := by decide +kernel
theorem dX4_init_1 : decode cX4_init 1 = .ok (.invokespecial 1, 3) := by decide +kernel
theorem dX4_init_4 : decode cX4_init 4 = .ok (.aload_n 0, 1) := by decide +kernel
theorem dX4_init_5 : decode cX4_init 5 = .ok (.new 7, 3) := by decide +kernel
theorem dX4_init_8 : decode cX4_init 8 = .ok (.dup, 1) := by decide +kernel
theorem dX4_init_9 : decode cX4_init 9 = .ok (.invokespecial 9, 3) := by decide +kernel
theorem dX4_init_12 : decode cX4_init 12 = .ok (.putfield 10, 3) := by decide +kernel
theorem dX4_init_15 : decode cX4_init 15 = .ok (.aload_n 0, 1) := by decide +kernel
theorem dX4_init_16 : decode cX4_init 16 = .ok (.bipush 6, 2) := by decide +kernel
theorem dX4_init_18 : decode cX4_init 18 = .ok (.newarray .int, 2) := by decide +kernel
theorem dX4_init_20 : decode cX4_init 20 = .ok (.putfield 16, 3) := by decide +kernel
theorem dX4_init_23 : decode cX4_init 23 = .ok (.aload_n 0, 1) := by decide +kernel
theorem dX4_init_24 : decode cX4_init 24 = .ok (.iconst 3, 1) := by decide +kernel
theorem dX4_init_25 : decode cX4_init 25 = .ok (.newarray .int, 2) := by decide +kernel
theorem dX4_init_27 : decode cX4_init 27 = .ok (.putfield 20, 3) := by decide +kernel
theorem dX4_init_30 : decode cX4_init 30 = .ok (.aload_n 0, 1) := by decide +kernel
theorem dX4_init_31 : decode cX4_init 31 = .ok (.iconst 3, 1) := by decide +kernel
theorem dX4_init_32 : decode cX4_init 32 = .ok (.newarray .int, 2) := by decide +kernel
theorem dX4_init_34 : decode cX4_init 34 = .ok (.putfield 23, 3) := by decide +kernel
theorem dX4_init_37 : decode cX4_init 37 = .ok (.aload_n 0, 1) := by decide +kernel
theorem dX4_init_38 : decode cX4_init 38 = .ok (.sipush 341, 3) := by decide +kernel
theorem dX4_init_41 : decode cX4_init 41 = .ok (.anewarray 26, 3) := by decide +kernel
theorem dX4_init_44 : decode cX4_init 44 = .ok (.putfield 28, 3) := by decide +kernel
theorem dX4_init_47 : decode cX4_init 47 = .ok (.aload_n 0, 1) := by decide +kernel
theorem dX4_init_48 : decode cX4_init 48 = .ok (.iconst 0, 1) := by decide +kernel
theorem dX4_init_49 : decode cX4_init 49 = .ok (.putfield 32, 3) := by decide +kernel
theorem dX4_init_52 : decode cX4_init 52 = .ok (.aload_n 0, 1) := by decide +kernel
theorem dX4_init_53 : decode cX4_init 53 = .ok (.getfield 16, 3) := by decide +kernel
theorem dX4_init_56 : decode cX4_init 56 = .ok (.bipush 50, 2) := by decide +kernel
theorem dX4_init_58 : decode cX4_init 58 = .ok (.invokestatic 36, 3) := by decide +kernel
theorem dX4_init_61 : decode cX4_init 61 = .ok (.return_, 1) := by decide +kernel
set_option maxRecDepth 20000 in
theorem ggX4_addWay_X4_requireEditor : GoodIn wsX4_addWay wsX4_requireEditor := goodIn_ca (goodIn_r _ [15, 16, 17, 18, 19, 14, 20] (by decide +kernel) (by decide +kernel)) (goodIn_sub (fun _ h => List.mem_cons_of_mem _ (List.mem_append_right _ h)) (by decide +kernel))
set_option maxRecDepth 20000 in
theorem gX4_addWay_X4_requireEditor : GoodIn wsX4_addWay (va_wsS RX4 42 yX4_requireEditor wsX4_requireEditor) := goodIn_app (goodIn_of _ (by decide +kernel)) ggX4_addWay_X4_requireEditor
set_option maxRecDepth 20000 in
theorem ggX4_addWay_X4_requireCrossing : GoodIn wsX4_addWay wsX4_requireCrossing := goodIn_ca (goodIn_r _ [23, 16, 17, 18, 19, 14, 20] (by decide +kernel) (by decide +kernel)) (goodIn_sub (fun _ h => List.mem_cons_of_mem _ (List.mem_append_right _ h)) (by decide +kernel))
set_option maxRecDepth 20000 in
theorem gX4_addWay_X4_requireCrossing : GoodIn wsX4_addWay (va_wsS RX4 46 yX4_requireCrossing wsX4_requireCrossing) := goodIn_app (goodIn_of _ (by decide +kernel)) ggX4_addWay_X4_requireCrossing
set_option maxRecDepth 20000 in
theorem ggX4_addWay_X4_isIn : GoodIn wsX4_addWay wsX4_isIn := goodIn_r _ [20] (by decide +kernel) (by decide +kernel)
set_option maxRecDepth 20000 in
theorem gX4_addWay_X4_isIn : GoodIn wsX4_addWay (va_wsS RX4 50 yX4_isIn wsX4_isIn) := goodIn_app (goodIn_of _ (by decide +kernel)) ggX4_addWay_X4_isIn
set_option maxRecDepth 20000 in
theorem ggX4_addWay_X4_isKind : GoodIn wsX4_addWay wsX4_isKind := goodIn_r _ [26, 18, 19, 14, 20] (by decide +kernel) (by decide +kernel)
set_option maxRecDepth 20000 in
theorem gX4_addWay_X4_isKind : GoodIn wsX4_addWay (va_wsS RX4 54 yX4_isKind wsX4_isKind) := goodIn_app (goodIn_of _ (by decide +kernel)) ggX4_addWay_X4_isKind
set_option maxRecDepth 20000 in
theorem ggX4_addWay_Jx4a65c_size_8abf5 : GoodIn wsX4_addWay wsJx4a65c_size_8abf5 := goodIn_r _ [31, 32, 149, 150, 151] (by decide +kernel) (by decide +kernel)
set_option maxRecDepth 20000 in
theorem gX4_addWay_Jx4a65c_size_8abf5 : GoodIn wsX4_addWay (wsV RX4 65 RJx4a65c yJx4a65c_size_8abf5 wsJx4a65c_size_8abf5) := goodIn_app (goodIn_of _ (by decide +kernel)) ggX4_addWay_Jx4a65c_size_8abf5
set_option maxRecDepth 20000 in
theorem ggX4_addWay_X4_isFull : GoodIn wsX4_addWay wsX4_isFull := goodIn_r _ [36, 37, 132, 133, 134, 135, 136, 137] (by decide +kernel) (by decide +kernel)
set_option maxRecDepth 20000 in
theorem gX4_addWay_X4_isFull : GoodIn wsX4_addWay (wsV RX4 69 RX4 yX4_isFull wsX4_isFull) := goodIn_app (goodIn_of _ (by decide +kernel)) ggX4_addWay_X4_isFull
set_option maxRecDepth 20000 in
theorem ggX4_addWay_X0_init : GoodIn wsX4_addWay wsX0_init := goodIn_r _ [40, 41, 42, 43, 44, 45, 46, 146, 147, 148] (by decide +kernel) (by decide +kernel)
set_option maxRecDepth 20000 in
theorem gX4_addWay_X0_init : GoodIn wsX4_addWay (wsX0_init) := ggX4_addWay_X0_init
set_option maxRecDepth 20000 in
theorem ggX4_addWay_X4_newVersion : GoodIn wsX4_addWay wsX4_newVersion := goodIn_r _ [50, 37, 51, 52, 53, 54, 55, 56, 57, 42, 43, 58, 59, 60, 61, 132, 133, 134, 135, 136, 137, 152, 153, 154, 155] (by decide +kernel) (by decide +kernel)
set_option maxRecDepth 20000 in
theorem gX4_addWay_X4_newVersion : GoodIn wsX4_addWay (wsV RX4 85 RX4 yX4_newVersion wsX4_newVersion) := goodIn_app (goodIn_of _ (by decide +kernel)) ggX4_addWay_X4_newVersion
set_option maxRecDepth 20000 in
theorem ggX4_addWay_X3_init : GoodIn wsX4_addWay wsX3_init := goodIn_r _ [64, 65, 42, 43, 66, 67, 68, 69, 70, 71, 72, 73, 74, 75, 76, 77, 78, 138, 139, 140, 141, 142, 143, 144, 145] (by decide +kernel) (by decide +kernel)
set_option maxRecDepth 20000 in
theorem gX4_addWay_X3_init : GoodIn wsX4_addWay (wsX3_init) := ggX4_addWay_X3_init
set_option maxRecDepth 20000 in
theorem ggX4_addWay_Jx4a65c_add_9ea2d : GoodIn wsX4_addWay wsJx4a65c_add_9ea2d := goodIn_r _ [82, 83, 84, 85, 32, 86, 87, 88, 30, 89, 90, 91, 92, 93, 94, 95, 96, 97, 98, 99, 100, 101, 102, 103, 104, 105, 106, 107, 108, 109, 110, 111, 112, 113, 114, 77, 115, 116, 117, 118, 119, 120, 121, 122, 123, 124, 125, 126, 127, 128, 129, 130, 131, 149, 150, 151] (by decide +kernel) (by decide +kernel)
set_option maxRecDepth 20000 in
theorem gX4_addWay_Jx4a65c_add_9ea2d : GoodIn wsX4_addWay (wsV RX4 92 RJx4a65c yJx4a65c_add_9ea2d wsJx4a65c_add_9ea2d) := goodIn_app (goodIn_of _ (by decide +kernel)) ggX4_addWay_Jx4a65c_add_9ea2d
theorem dX4_addWay_0 : decode cX4_addWay 0 = .ok (.iload_n 1, 1) := by decide +kernel
theorem dX4_addWay_1 : decode cX4_addWay 1 = .ok (.invokestatic 42, 3) := by decide +kernel
theorem dX4_addWay_4 : decode cX4_addWay 4 = .ok (.iload_n 2, 1) := by decide +kernel
theorem dX4_addWay_5 : decode cX4_addWay 5 = .ok (.iload_n 3, 1) := by decide +kernel
theorem dX4_addWay_6 : decode cX4_addWay 6 = .ok (.invokestatic 46, 3) := by decide +kernel
theorem dX4_addWay_9 : decode cX4_addWay 9 = .ok (.iload 4, 2) := by decide +kernel
theorem dX4_addWay_11 : decode cX4_addWay 11 = .ok (.ifCond .eq 19, 3) := by decide +kernel
theorem dX4_addWay_14 : decode cX4_addWay 14 = .ok (.iload 4, 2) := by decide +kernel
theorem dX4_addWay_16 : decode cX4_addWay 16 = .ok (.bipush (-16), 2) := by decide +kernel
theorem dX4_addWay_18 : decode cX4_addWay 18 = .ok (.bipush 16, 2) := by decide +kernel
theorem dX4_addWay_20 : decode cX4_addWay 20 = .ok (.invokestatic 50, 3) := by decide +kernel
theorem dX4_addWay_23 : decode cX4_addWay 23 = .ok (.ifCond .eq 7, 3) := by decide +kernel
theorem dX4_addWay_26 : decode cX4_addWay 26 = .ok (.iconst 1, 1) := by decide +kernel
theorem dX4_addWay_27 : decode cX4_addWay 27 = .ok (.goto 4, 3) := by decide +kernel
theorem dX4_addWay_30 : decode cX4_addWay 30 = .ok (.iconst 0, 1) := by decide +kernel
theorem dX4_addWay_31 : decode cX4_addWay 31 = .ok (.istore 6, 2) := by decide +kernel
theorem dX4_addWay_33 : decode cX4_addWay 33 = .ok (.iload 6, 2) := by decide +kernel
theorem dX4_addWay_35 : decode cX4_addWay 35 = .ok (.ifCond .eq 15, 3) := by decide +kernel
theorem dX4_addWay_38 : decode cX4_addWay 38 = .ok (.iload 4, 2) := by decide +kernel
theorem dX4_addWay_40 : decode cX4_addWay 40 = .ok (.ifCond .le 10, 3) := by decide +kernel
theorem dX4_addWay_43 : decode cX4_addWay 43 = .ok (.iload_n 2, 1) := by decide +kernel
theorem dX4_addWay_44 : decode cX4_addWay 44 = .ok (.iload 4, 2) := by decide +kernel
theorem dX4_addWay_46 : decode cX4_addWay 46 = .ok (.iadd, 1) := by decide +kernel
theorem dX4_addWay_47 : decode cX4_addWay 47 = .ok (.goto 4, 3) := by decide +kernel
theorem dX4_addWay_50 : decode cX4_addWay 50 = .ok (.iload_n 2, 1) := by decide +kernel
theorem dX4_addWay_51 : decode cX4_addWay 51 = .ok (.istore 7, 2) := by decide +kernel
theorem dX4_addWay_53 : decode cX4_addWay 53 = .ok (.iload 6, 2) := by decide +kernel
theorem dX4_addWay_55 : decode cX4_addWay 55 = .ok (.ifCond .eq 15, 3) := by decide +kernel
theorem dX4_addWay_58 : decode cX4_addWay 58 = .ok (.iload 4, 2) := by decide +kernel
theorem dX4_addWay_60 : decode cX4_addWay 60 = .ok (.ifCond .ge 10, 3) := by decide +kernel
theorem dX4_addWay_63 : decode cX4_addWay 63 = .ok (.iload_n 3, 1) := by decide +kernel
theorem dX4_addWay_64 : decode cX4_addWay 64 = .ok (.iload 4, 2) := by decide +kernel
theorem dX4_addWay_66 : decode cX4_addWay 66 = .ok (.isub, 1) := by decide +kernel
theorem dX4_addWay_67 : decode cX4_addWay 67 = .ok (.goto 4, 3) := by decide +kernel
theorem dX4_addWay_70 : decode cX4_addWay 70 = .ok (.iload_n 3, 1) := by decide +kernel
theorem dX4_addWay_71 : decode cX4_addWay 71 = .ok (.istore 8, 2) := by decide +kernel
theorem dX4_addWay_73 : decode cX4_addWay 73 = .ok (.iload 7, 2) := by decide +kernel
theorem dX4_addWay_75 : decode cX4_addWay 75 = .ok (.iload 8, 2) := by decide +kernel
theorem dX4_addWay_77 : decode cX4_addWay 77 = .ok (.invokestatic 46, 3) := by decide +kernel
theorem dX4_addWay_80 : decode cX4_addWay 80 = .ok (.iload 6, 2) := by decide +kernel
theorem dX4_addWay_82 : decode cX4_addWay 82 = .ok (.ifCond .eq 11, 3) := by decide +kernel
theorem dX4_addWay_85 : decode cX4_addWay 85 = .ok (.iload 5, 2) := by decide +kernel
theorem dX4_addWay_87 : decode cX4_addWay 87 = .ok (.invokestatic 54, 3) := by decide +kernel
theorem dX4_addWay_90 : decode cX4_addWay 90 = .ok (.ifCond .ne 13, 3) := by decide +kernel
theorem dX4_addWay_93 : decode cX4_addWay 93 = .ok (.new 58, 3) := by decide +kernel
theorem dX4_addWay_96 : decode cX4_addWay 96 = .ok (.dup, 1) := by decide +kernel
theorem dX4_addWay_97 : decode cX4_addWay 97 = .ok (.ldc 60, 2) := by decide +kernel
theorem dX4_addWay_99 : decode cX4_addWay 99 = .ok (.invokespecial 62, 3) := by decide +kernel
theorem dX4_addWay_102 : decode cX4_addWay 102 = .ok (.athrow, 1) := by decide +kernel
theorem dX4_addWay_103 : decode cX4_addWay 103 = .ok (.aload_n 0, 1) := by decide +kernel
theorem dX4_addWay_104 : decode cX4_addWay 104 = .ok (.getfield 10, 3) := by decide +kernel
theorem dX4_addWay_107 : decode cX4_addWay 107 = .ok (.invokevirtual 65, 3) := by decide +kernel
theorem dX4_addWay_110 : decode cX4_addWay 110 = .ok (.bipush 40, 2) := by decide +kernel
theorem dX4_addWay_112 : decode cX4_addWay 112 = .ok (.if_icmp .ge 10, 3) := by decide +kernel
theorem dX4_addWay_115 : decode cX4_addWay 115 = .ok (.aload_n 0, 1) := by decide +kernel
theorem dX4_addWay_116 : decode cX4_addWay 116 = .ok (.invokevirtual 69, 3) := by decide +kernel
theorem dX4_addWay_119 : decode cX4_addWay 119 = .ok (.ifCond .eq 13, 3) := by decide +kernel
theorem dX4_addWay_122 : decode cX4_addWay 122 = .ok (.new 73, 3) := by decide +kernel
theorem dX4_addWay_125 : decode cX4_addWay 125 = .ok (.dup, 1) := by decide +kernel
theorem dX4_addWay_126 : decode cX4_addWay 126 = .ok (.ldc 75, 2) := by decide +kernel
theorem dX4_addWay_128 : decode cX4_addWay 128 = .ok (.invokespecial 77, 3) := by decide +kernel
theorem dX4_addWay_131 : decode cX4_addWay 131 = .ok (.athrow, 1) := by decide +kernel
theorem dX4_addWay_132 : decode cX4_addWay 132 = .ok (.aload_n 0, 1) := by decide +kernel
theorem dX4_addWay_133 : decode cX4_addWay 133 = .ok (.getfield 10, 3) := by decide +kernel
theorem dX4_addWay_136 : decode cX4_addWay 136 = .ok (.new 78, 3) := by decide +kernel
theorem dX4_addWay_139 : decode cX4_addWay 139 = .ok (.dup, 1) := by decide +kernel
theorem dX4_addWay_140 : decode cX4_addWay 140 = .ok (.iload_n 2, 1) := by decide +kernel
theorem dX4_addWay_141 : decode cX4_addWay 141 = .ok (.iload_n 3, 1) := by decide +kernel
theorem dX4_addWay_142 : decode cX4_addWay 142 = .ok (.iload 7, 2) := by decide +kernel
theorem dX4_addWay_144 : decode cX4_addWay 144 = .ok (.iload 8, 2) := by decide +kernel
theorem dX4_addWay_146 : decode cX4_addWay 146 = .ok (.aload_n 0, 1) := by decide +kernel
theorem dX4_addWay_147 : decode cX4_addWay 147 = .ok (.new 80, 3) := by decide +kernel
theorem dX4_addWay_150 : decode cX4_addWay 150 = .ok (.dup, 1) := by decide +kernel
theorem dX4_addWay_151 : decode cX4_addWay 151 = .ok (.iload 5, 2) := by decide +kernel
theorem dX4_addWay_153 : decode cX4_addWay 153 = .ok (.iconst 0, 1) := by decide +kernel
theorem dX4_addWay_154 : decode cX4_addWay 154 = .ok (.iload_n 1, 1) := by decide +kernel
theorem dX4_addWay_155 : decode cX4_addWay 155 = .ok (.invokespecial 82, 3) := by decide +kernel
theorem dX4_addWay_158 : decode cX4_addWay 158 = .ok (.aconst_null, 1) := by decide +kernel
theorem dX4_addWay_159 : decode cX4_addWay 159 = .ok (.invokevirtual 85, 3) := by decide +kernel
theorem dX4_addWay_162 : decode cX4_addWay 162 = .ok (.invokespecial 89, 3) := by decide +kernel
theorem dX4_addWay_165 : decode cX4_addWay 165 = .ok (.invokevirtual 92, 3) := by decide +kernel
theorem dX4_addWay_168 : decode cX4_addWay 168 = .ok (.pop, 1) := by decide +kernel
theorem dX4_addWay_169 : decode cX4_addWay 169 = .ok (.aload_n 0, 1) := by decide +kernel
theorem dX4_addWay_170 : decode cX4_addWay 170 = .ok (.getfield 10, 3) := by decide +kernel
theorem dX4_addWay_173 : decode cX4_addWay 173 = .ok (.invokevirtual 65, 3) := by decide +kernel
theorem dX4_addWay_176 : decode cX4_addWay 176 = .ok (.iconst 1, 1) := by decide +kernel
theorem dX4_addWay_177 : decode cX4_addWay 177 = .ok (.isub, 1) := by decide +kernel
theorem dX4_addWay_178 : decode cX4_addWay 178 = .ok (.ireturn, 1) := by decide +kernel
set_option maxRecDepth 20000 in
theorem ggX4_edit_X4_requireEditor : GoodIn wsX4_edit wsX4_requireEditor := goodIn_ca (goodIn_r _ [14, 15, 16, 17, 18, 13, 19] (by decide +kernel) (by decide +kernel)) (goodIn_sub (fun _ h => List.mem_cons_of_mem _ (List.mem_append_right _ h)) (by decide +kernel))
set_option maxRecDepth 20000 in
theorem gX4_edit_X4_requireEditor : GoodIn wsX4_edit (va_wsS RX4 42 yX4_requireEditor wsX4_requireEditor) := goodIn_app (goodIn_of _ (by decide +kernel)) ggX4_edit_X4_requireEditor
set_option maxRecDepth 20000 in
theorem ggX4_edit_X4_wayAt : GoodIn wsX4_edit wsX4_wayAt := goodIn_ca (goodIn_r _ [23, 15, 16, 24, 25, 26, 27, 28, 29, 30, 31, 32, 33, 34, 35, 36, 37, 38, 39, 40, 41, 42, 43, 44, 45, 46, 47, 48, 105, 106, 107, 108, 109, 110, 119, 120, 121] (by decide +kernel) (by decide +kernel)) (goodIn_sub (fun _ h => List.mem_cons_of_mem _ (List.mem_append_right _ h)) (by decide +kernel))
set_option maxRecDepth 20000 in
theorem gX4_edit_X4_wayAt : GoodIn wsX4_edit (wsV RX4 96 RX4 yX4_wayAt wsX4_wayAt) := goodIn_app (goodIn_of _ (by decide +kernel)) ggX4_edit_X4_wayAt
set_option maxRecDepth 20000 in
theorem ggX4_edit_X4_isKind : GoodIn wsX4_edit wsX4_isKind := goodIn_r _ [51, 17, 18, 13, 19] (by decide +kernel) (by decide +kernel)
set_option maxRecDepth 20000 in
theorem gX4_edit_X4_isKind : GoodIn wsX4_edit (va_wsS RX4 54 yX4_isKind wsX4_isKind) := goodIn_app (goodIn_of _ (by decide +kernel)) ggX4_edit_X4_isKind
set_option maxRecDepth 20000 in
theorem ggX4_edit_X4_isDirection : GoodIn wsX4_edit wsX4_isDirection := goodIn_r _ [54, 17, 18, 13, 19] (by decide +kernel) (by decide +kernel)
set_option maxRecDepth 20000 in
theorem gX4_edit_X4_isDirection : GoodIn wsX4_edit (va_wsS RX4 100 yX4_isDirection wsX4_isDirection) := goodIn_app (goodIn_of _ (by decide +kernel)) ggX4_edit_X4_isDirection
set_option maxRecDepth 20000 in
theorem ggX4_edit_X3_kind : GoodIn wsX4_edit wsX3_kind := goodIn_r _ [59, 60, 61, 62, 111, 112, 113, 114, 115, 116, 117, 118, 122, 123, 124, 125, 102, 103, 104] (by decide +kernel) (by decide +kernel)
set_option maxRecDepth 20000 in
theorem gX4_edit_X3_kind : GoodIn wsX4_edit (wsV RX4 105 RX3 yX3_kind wsX3_kind) := goodIn_app (goodIn_of _ (by decide +kernel)) ggX4_edit_X3_kind
set_option maxRecDepth 20000 in
theorem ggX4_edit_X3_direction : GoodIn wsX4_edit wsX3_direction := goodIn_r _ [66, 60, 61, 67, 111, 112, 113, 114, 115, 116, 117, 118, 122, 123, 124, 125, 102, 103, 104] (by decide +kernel) (by decide +kernel)
set_option maxRecDepth 20000 in
theorem gX4_edit_X3_direction : GoodIn wsX4_edit (wsV RX4 108 RX3 yX3_direction wsX3_direction) := goodIn_app (goodIn_of _ (by decide +kernel)) ggX4_edit_X3_direction
set_option maxRecDepth 20000 in
theorem ggX4_edit_X4_isFull : GoodIn wsX4_edit wsX4_isFull := goodIn_r _ [71, 72, 105, 106, 107, 108, 109, 110] (by decide +kernel) (by decide +kernel)
set_option maxRecDepth 20000 in
theorem gX4_edit_X4_isFull : GoodIn wsX4_edit (wsV RX4 69 RX4 yX4_isFull wsX4_isFull) := goodIn_app (goodIn_of _ (by decide +kernel)) ggX4_edit_X4_isFull
set_option maxRecDepth 20000 in
theorem ggX4_edit_X0_init : GoodIn wsX4_edit wsX0_init := goodIn_r _ [75, 76, 77, 78, 79, 80, 81, 102, 103, 104] (by decide +kernel) (by decide +kernel)
set_option maxRecDepth 20000 in
theorem gX4_edit_X0_init : GoodIn wsX4_edit (wsX0_init) := ggX4_edit_X0_init
set_option maxRecDepth 20000 in
theorem ggX4_edit_X4_addVersion : GoodIn wsX4_edit wsX4_addVersion := goodIn_r _ [85, 86, 10, 87, 88, 89, 13, 90, 72, 91, 92, 93, 94, 95, 96, 97, 77, 78, 98, 99, 100, 101, 111, 112, 113, 114, 115, 116, 117, 118, 105, 106, 107, 108, 109, 110, 122, 123, 124, 125] (by decide +kernel) (by decide +kernel)
set_option maxRecDepth 20000 in
theorem gX4_edit_X4_addVersion : GoodIn wsX4_edit (wsV RX4 120 RX4 yX4_addVersion wsX4_addVersion) := goodIn_app (goodIn_of _ (by decide +kernel)) ggX4_edit_X4_addVersion
theorem dX4_edit_0 : decode cX4_edit 0 = .ok (.iload_n 1, 1) := by decide +kernel
theorem dX4_edit_1 : decode cX4_edit 1 = .ok (.invokestatic 42, 3) := by decide +kernel
theorem dX4_edit_4 : decode cX4_edit 4 = .ok (.aload_n 0, 1) := by decide +kernel
theorem dX4_edit_5 : decode cX4_edit 5 = .ok (.iload_n 2, 1) := by decide +kernel
theorem dX4_edit_6 : decode cX4_edit 6 = .ok (.invokevirtual 96, 3) := by decide +kernel
theorem dX4_edit_9 : decode cX4_edit 9 = .ok (.astore 5, 2) := by decide +kernel
theorem dX4_edit_11 : decode cX4_edit 11 = .ok (.iload_n 3, 1) := by decide +kernel
theorem dX4_edit_12 : decode cX4_edit 12 = .ok (.invokestatic 54, 3) := by decide +kernel
theorem dX4_edit_15 : decode cX4_edit 15 = .ok (.ifCond .eq 11, 3) := by decide +kernel
theorem dX4_edit_18 : decode cX4_edit 18 = .ok (.iload 4, 2) := by decide +kernel
theorem dX4_edit_20 : decode cX4_edit 20 = .ok (.invokestatic 100, 3) := by decide +kernel
theorem dX4_edit_23 : decode cX4_edit 23 = .ok (.ifCond .ne 13, 3) := by decide +kernel
theorem dX4_edit_26 : decode cX4_edit 26 = .ok (.new 58, 3) := by decide +kernel
theorem dX4_edit_29 : decode cX4_edit 29 = .ok (.dup, 1) := by decide +kernel
theorem dX4_edit_30 : decode cX4_edit 30 = .ok (.ldc 103, 2) := by decide +kernel
theorem dX4_edit_32 : decode cX4_edit 32 = .ok (.invokespecial 62, 3) := by decide +kernel
theorem dX4_edit_35 : decode cX4_edit 35 = .ok (.athrow, 1) := by decide +kernel
theorem dX4_edit_36 : decode cX4_edit 36 = .ok (.aload 5, 2) := by decide +kernel
theorem dX4_edit_38 : decode cX4_edit 38 = .ok (.invokevirtual 105, 3) := by decide +kernel
theorem dX4_edit_41 : decode cX4_edit 41 = .ok (.iload_n 3, 1) := by decide +kernel
theorem dX4_edit_42 : decode cX4_edit 42 = .ok (.if_icmp .ne 13, 3) := by decide +kernel
theorem dX4_edit_45 : decode cX4_edit 45 = .ok (.aload 5, 2) := by decide +kernel
theorem dX4_edit_47 : decode cX4_edit 47 = .ok (.invokevirtual 108, 3) := by decide +kernel
theorem dX4_edit_50 : decode cX4_edit 50 = .ok (.iload 4, 2) := by decide +kernel
theorem dX4_edit_52 : decode cX4_edit 52 = .ok (.if_icmp .eq 10, 3) := by decide +kernel
theorem dX4_edit_55 : decode cX4_edit 55 = .ok (.aload_n 0, 1) := by decide +kernel
theorem dX4_edit_56 : decode cX4_edit 56 = .ok (.invokevirtual 69, 3) := by decide +kernel
theorem dX4_edit_59 : decode cX4_edit 59 = .ok (.ifCond .eq 13, 3) := by decide +kernel
theorem dX4_edit_62 : decode cX4_edit 62 = .ok (.new 73, 3) := by decide +kernel
theorem dX4_edit_65 : decode cX4_edit 65 = .ok (.dup, 1) := by decide +kernel
theorem dX4_edit_66 : decode cX4_edit 66 = .ok (.ldc 111, 2) := by decide +kernel
theorem dX4_edit_68 : decode cX4_edit 68 = .ok (.invokespecial 77, 3) := by decide +kernel
theorem dX4_edit_71 : decode cX4_edit 71 = .ok (.athrow, 1) := by decide +kernel
theorem dX4_edit_72 : decode cX4_edit 72 = .ok (.new 80, 3) := by decide +kernel
theorem dX4_edit_75 : decode cX4_edit 75 = .ok (.dup, 1) := by decide +kernel
theorem dX4_edit_76 : decode cX4_edit 76 = .ok (.iload_n 3, 1) := by decide +kernel
theorem dX4_edit_77 : decode cX4_edit 77 = .ok (.iload 4, 2) := by decide +kernel
theorem dX4_edit_79 : decode cX4_edit 79 = .ok (.iload_n 1, 1) := by decide +kernel
theorem dX4_edit_80 : decode cX4_edit 80 = .ok (.invokespecial 82, 3) := by decide +kernel
theorem dX4_edit_83 : decode cX4_edit 83 = .ok (.astore 6, 2) := by decide +kernel
theorem dX4_edit_85 : decode cX4_edit 85 = .ok (.aload_n 0, 1) := by decide +kernel
theorem dX4_edit_86 : decode cX4_edit 86 = .ok (.getfield 16, 3) := by decide +kernel
theorem dX4_edit_89 : decode cX4_edit 89 = .ok (.iload_n 1, 1) := by decide +kernel
theorem dX4_edit_90 : decode cX4_edit 90 = .ok (.iaload, 1) := by decide +kernel
theorem dX4_edit_91 : decode cX4_edit 91 = .ok (.aload 5, 2) := by decide +kernel
theorem dX4_edit_93 : decode cX4_edit 93 = .ok (.getfield 113, 3) := by decide +kernel
theorem dX4_edit_96 : decode cX4_edit 96 = .ok (.if_icmp .ge 12, 3) := by decide +kernel
theorem dX4_edit_99 : decode cX4_edit 99 = .ok (.aload 5, 2) := by decide +kernel
theorem dX4_edit_101 : decode cX4_edit 101 = .ok (.aload 6, 2) := by decide +kernel
theorem dX4_edit_103 : decode cX4_edit 103 = .ok (.putfield 116, 3) := by decide +kernel
theorem dX4_edit_106 : decode cX4_edit 106 = .ok (.iconst 0, 1) := by decide +kernel
theorem dX4_edit_107 : decode cX4_edit 107 = .ok (.ireturn, 1) := by decide +kernel
theorem dX4_edit_108 : decode cX4_edit 108 = .ok (.aload_n 0, 1) := by decide +kernel
theorem dX4_edit_109 : decode cX4_edit 109 = .ok (.aload 5, 2) := by decide +kernel
theorem dX4_edit_111 : decode cX4_edit 111 = .ok (.aload 6, 2) := by decide +kernel
theorem dX4_edit_113 : decode cX4_edit 113 = .ok (.invokevirtual 120, 3) := by decide +kernel
theorem dX4_edit_116 : decode cX4_edit 116 = .ok (.iconst 1, 1) := by decide +kernel
theorem dX4_edit_117 : decode cX4_edit 117 = .ok (.ireturn, 1) := by decide +kernel
set_option maxRecDepth 20000 in
theorem ggX4_judge_X4_requireEditor : GoodIn wsX4_judge wsX4_requireEditor := goodIn_ca (goodIn_r _ [10, 11, 12, 13, 14, 9, 15] (by decide +kernel) (by decide +kernel)) (goodIn_sub (fun _ h => List.mem_cons_of_mem _ (List.mem_append_right _ h)) (by decide +kernel))
set_option maxRecDepth 20000 in
theorem gX4_judge_X4_requireEditor : GoodIn wsX4_judge (va_wsS RX4 42 yX4_requireEditor wsX4_requireEditor) := goodIn_app (goodIn_of _ (by decide +kernel)) ggX4_judge_X4_requireEditor
set_option maxRecDepth 20000 in
theorem ggX4_judge_X4_wayAt : GoodIn wsX4_judge wsX4_wayAt := goodIn_ca (goodIn_r _ [19, 11, 12, 20, 21, 22, 23, 24, 25, 26, 27, 28, 29, 30, 31, 32, 33, 34, 35, 36, 37, 38, 39, 40, 41, 42, 43, 44, 94, 95, 96, 97, 98, 99, 100, 101, 102] (by decide +kernel) (by decide +kernel)) (goodIn_sub (fun _ h => List.mem_cons_of_mem _ (List.mem_append_right _ h)) (by decide +kernel))
set_option maxRecDepth 20000 in
theorem gX4_judge_X4_wayAt : GoodIn wsX4_judge (wsV RX4 96 RX4 yX4_wayAt wsX4_wayAt) := goodIn_app (goodIn_of _ (by decide +kernel)) ggX4_judge_X4_wayAt
set_option maxRecDepth 20000 in
theorem ggX4_judge_X4_isFull : GoodIn wsX4_judge wsX4_isFull := goodIn_r _ [48, 49, 94, 95, 96, 97, 98, 99] (by decide +kernel) (by decide +kernel)
set_option maxRecDepth 20000 in
theorem gX4_judge_X4_isFull : GoodIn wsX4_judge (wsV RX4 69 RX4 yX4_isFull wsX4_isFull) := goodIn_app (goodIn_of _ (by decide +kernel)) ggX4_judge_X4_isFull
set_option maxRecDepth 20000 in
theorem ggX4_judge_X4_addTrust : GoodIn wsX4_judge wsX4_addTrust := goodIn_r _ [53, 5, 54, 55, 56, 57, 58, 59, 60, 94, 95, 96, 97, 98, 99] (by decide +kernel) (by decide +kernel)
set_option maxRecDepth 20000 in
theorem gX4_judge_X4_addTrust : GoodIn wsX4_judge (wsV RX4 129 RX4 yX4_addTrust wsX4_addTrust) := goodIn_app (goodIn_of _ (by decide +kernel)) ggX4_judge_X4_addTrust
set_option maxRecDepth 20000 in
theorem ggX4_judge_X4_addVersion : GoodIn wsX4_judge wsX4_addVersion := goodIn_r _ [64, 65, 3, 66, 67, 68, 9, 69, 49, 70, 71, 72, 73, 74, 75, 76, 77, 78, 79, 80, 81, 82, 83, 84, 85, 86, 87, 88, 89, 90, 94, 95, 96, 97, 98, 99, 103, 104, 105, 106] (by decide +kernel) (by decide +kernel)
set_option maxRecDepth 20000 in
theorem gX4_judge_X4_addVersion : GoodIn wsX4_judge (wsV RX4 120 RX4 yX4_addVersion wsX4_addVersion) := goodIn_app (goodIn_of _ (by decide +kernel)) ggX4_judge_X4_addVersion
theorem dX4_judge_0 : decode cX4_judge 0 = .ok (.iload_n 1, 1) := by decide +kernel
theorem dX4_judge_1 : decode cX4_judge 1 = .ok (.invokestatic 42, 3) := by decide +kernel
theorem dX4_judge_4 : decode cX4_judge 4 = .ok (.aload_n 0, 1) := by decide +kernel
theorem dX4_judge_5 : decode cX4_judge 5 = .ok (.iload_n 2, 1) := by decide +kernel
theorem dX4_judge_6 : decode cX4_judge 6 = .ok (.invokevirtual 96, 3) := by decide +kernel
theorem dX4_judge_9 : decode cX4_judge 9 = .ok (.astore 4, 2) := by decide +kernel
theorem dX4_judge_11 : decode cX4_judge 11 = .ok (.aload 4, 2) := by decide +kernel
theorem dX4_judge_13 : decode cX4_judge 13 = .ok (.getfield 116, 3) := by decide +kernel
theorem dX4_judge_16 : decode cX4_judge 16 = .ok (.astore 5, 2) := by decide +kernel
theorem dX4_judge_18 : decode cX4_judge 18 = .ok (.aload 5, 2) := by decide +kernel
theorem dX4_judge_20 : decode cX4_judge 20 = .ok (.ifnull 33, 3) := by decide +kernel
theorem dX4_judge_23 : decode cX4_judge 23 = .ok (.aload 5, 2) := by decide +kernel
theorem dX4_judge_25 : decode cX4_judge 25 = .ok (.getfield 124, 3) := by decide +kernel
theorem dX4_judge_28 : decode cX4_judge 28 = .ok (.iload_n 1, 1) := by decide +kernel
theorem dX4_judge_29 : decode cX4_judge 29 = .ok (.if_icmp .eq 24, 3) := by decide +kernel
theorem dX4_judge_32 : decode cX4_judge 32 = .ok (.aload_n 0, 1) := by decide +kernel
theorem dX4_judge_33 : decode cX4_judge 33 = .ok (.getfield 16, 3) := by decide +kernel
theorem dX4_judge_36 : decode cX4_judge 36 = .ok (.iload_n 1, 1) := by decide +kernel
theorem dX4_judge_37 : decode cX4_judge 37 = .ok (.iaload, 1) := by decide +kernel
theorem dX4_judge_38 : decode cX4_judge 38 = .ok (.aload 4, 2) := by decide +kernel
theorem dX4_judge_40 : decode cX4_judge 40 = .ok (.getfield 113, 3) := by decide +kernel
theorem dX4_judge_43 : decode cX4_judge 43 = .ok (.if_icmp .lt 10, 3) := by decide +kernel
theorem dX4_judge_46 : decode cX4_judge 46 = .ok (.aload_n 0, 1) := by decide +kernel
theorem dX4_judge_47 : decode cX4_judge 47 = .ok (.invokevirtual 69, 3) := by decide +kernel
theorem dX4_judge_50 : decode cX4_judge 50 = .ok (.ifCond .eq 13, 3) := by decide +kernel
theorem dX4_judge_53 : decode cX4_judge 53 = .ok (.new 73, 3) := by decide +kernel
theorem dX4_judge_56 : decode cX4_judge 56 = .ok (.dup, 1) := by decide +kernel
theorem dX4_judge_57 : decode cX4_judge 57 = .ok (.ldc 127, 2) := by decide +kernel
theorem dX4_judge_59 : decode cX4_judge 59 = .ok (.invokespecial 77, 3) := by decide +kernel
theorem dX4_judge_62 : decode cX4_judge 62 = .ok (.athrow, 1) := by decide +kernel
theorem dX4_judge_63 : decode cX4_judge 63 = .ok (.iload_n 3, 1) := by decide +kernel
theorem dX4_judge_64 : decode cX4_judge 64 = .ok (.ifCond .eq 21, 3) := by decide +kernel
theorem dX4_judge_67 : decode cX4_judge 67 = .ok (.aload 4, 2) := by decide +kernel
theorem dX4_judge_69 : decode cX4_judge 69 = .ok (.aconst_null, 1) := by decide +kernel
theorem dX4_judge_70 : decode cX4_judge 70 = .ok (.putfield 116, 3) := by decide +kernel
theorem dX4_judge_73 : decode cX4_judge 73 = .ok (.aload_n 0, 1) := by decide +kernel
theorem dX4_judge_74 : decode cX4_judge 74 = .ok (.aload 5, 2) := by decide +kernel
theorem dX4_judge_76 : decode cX4_judge 76 = .ok (.getfield 124, 3) := by decide +kernel
theorem dX4_judge_79 : decode cX4_judge 79 = .ok (.bipush (-5), 2) := by decide +kernel
theorem dX4_judge_81 : decode cX4_judge 81 = .ok (.invokevirtual 129, 3) := by decide +kernel
theorem dX4_judge_84 : decode cX4_judge 84 = .ok (.ireturn, 1) := by decide +kernel
theorem dX4_judge_85 : decode cX4_judge 85 = .ok (.aload_n 0, 1) := by decide +kernel
theorem dX4_judge_86 : decode cX4_judge 86 = .ok (.aload 4, 2) := by decide +kernel
theorem dX4_judge_88 : decode cX4_judge 88 = .ok (.aload 5, 2) := by decide +kernel
theorem dX4_judge_90 : decode cX4_judge 90 = .ok (.invokevirtual 120, 3) := by decide +kernel
theorem dX4_judge_93 : decode cX4_judge 93 = .ok (.aload_n 0, 1) := by decide +kernel
theorem dX4_judge_94 : decode cX4_judge 94 = .ok (.aload 5, 2) := by decide +kernel
theorem dX4_judge_96 : decode cX4_judge 96 = .ok (.getfield 124, 3) := by decide +kernel
theorem dX4_judge_99 : decode cX4_judge 99 = .ok (.iconst 5, 1) := by decide +kernel
theorem dX4_judge_100 : decode cX4_judge 100 = .ok (.invokevirtual 129, 3) := by decide +kernel
theorem dX4_judge_103 : decode cX4_judge 103 = .ok (.ireturn, 1) := by decide +kernel
set_option maxRecDepth 20000 in
theorem ggX4_revert_X4_requireEditor : GoodIn wsX4_revert wsX4_requireEditor := goodIn_ca (goodIn_r _ [16, 17, 18, 19, 20, 15, 21] (by decide +kernel) (by decide +kernel)) (goodIn_sub (fun _ h => List.mem_cons_of_mem _ (List.mem_append_right _ h)) (by decide +kernel))
set_option maxRecDepth 20000 in
theorem gX4_revert_X4_requireEditor : GoodIn wsX4_revert (va_wsS RX4 42 yX4_requireEditor wsX4_requireEditor) := goodIn_app (goodIn_of _ (by decide +kernel)) ggX4_revert_X4_requireEditor
set_option maxRecDepth 20000 in
theorem ggX4_revert_X4_wayAt : GoodIn wsX4_revert wsX4_wayAt := goodIn_ca (goodIn_r _ [25, 17, 18, 26, 27, 28, 29, 30, 31, 32, 33, 34, 35, 36, 37, 38, 39, 40, 41, 42, 43, 44, 45, 46, 47, 48, 49, 50, 111, 112, 113, 114, 115, 116, 117, 118, 119] (by decide +kernel) (by decide +kernel)) (goodIn_sub (fun _ h => List.mem_cons_of_mem _ (List.mem_append_right _ h)) (by decide +kernel))
set_option maxRecDepth 20000 in
theorem gX4_revert_X4_wayAt : GoodIn wsX4_revert (wsV RX4 96 RX4 yX4_wayAt wsX4_wayAt) := goodIn_app (goodIn_of _ (by decide +kernel)) ggX4_revert_X4_wayAt
set_option maxRecDepth 20000 in
theorem ggX4_revert_X4_isFull : GoodIn wsX4_revert wsX4_isFull := goodIn_r _ [54, 55, 111, 112, 113, 114, 115, 116] (by decide +kernel) (by decide +kernel)
set_option maxRecDepth 20000 in
theorem gX4_revert_X4_isFull : GoodIn wsX4_revert (wsV RX4 69 RX4 yX4_isFull wsX4_isFull) := goodIn_app (goodIn_of _ (by decide +kernel)) ggX4_revert_X4_isFull
set_option maxRecDepth 20000 in
theorem ggX4_revert_X0_init : GoodIn wsX4_revert wsX0_init := goodIn_r _ [58, 59, 60, 61, 62, 63, 64, 108, 109, 110] (by decide +kernel) (by decide +kernel)
set_option maxRecDepth 20000 in
theorem gX4_revert_X0_init : GoodIn wsX4_revert (wsX0_init) := ggX4_revert_X0_init
set_option maxRecDepth 20000 in
theorem ggX4_revert_X4_addVersion : GoodIn wsX4_revert wsX4_addVersion := goodIn_r _ [68, 3, 69, 70, 71, 72, 15, 73, 55, 74, 75, 76, 77, 78, 79, 80, 60, 61, 81, 82, 83, 84, 96, 97, 98, 99, 100, 101, 102, 103, 111, 112, 113, 114, 115, 116, 104, 105, 106, 107] (by decide +kernel) (by decide +kernel)
set_option maxRecDepth 20000 in
theorem gX4_revert_X4_addVersion : GoodIn wsX4_revert (wsV RX4 120 RX4 yX4_addVersion wsX4_addVersion) := goodIn_app (goodIn_of _ (by decide +kernel)) ggX4_revert_X4_addVersion
set_option maxRecDepth 20000 in
theorem ggX4_revert_X4_addTrust : GoodIn wsX4_revert wsX4_addTrust := goodIn_r _ [88, 7, 89, 90, 91, 92, 93, 94, 95, 111, 112, 113, 114, 115, 116] (by decide +kernel) (by decide +kernel)
set_option maxRecDepth 20000 in
theorem gX4_revert_X4_addTrust : GoodIn wsX4_revert (wsV RX4 129 RX4 yX4_addTrust wsX4_addTrust) := goodIn_app (goodIn_of _ (by decide +kernel)) ggX4_revert_X4_addTrust
theorem dX4_revert_0 : decode cX4_revert 0 = .ok (.iload_n 1, 1) := by decide +kernel
theorem dX4_revert_1 : decode cX4_revert 1 = .ok (.invokestatic 42, 3) := by decide +kernel
theorem dX4_revert_4 : decode cX4_revert 4 = .ok (.aload_n 0, 1) := by decide +kernel
theorem dX4_revert_5 : decode cX4_revert 5 = .ok (.iload_n 2, 1) := by decide +kernel
theorem dX4_revert_6 : decode cX4_revert 6 = .ok (.invokevirtual 96, 3) := by decide +kernel
theorem dX4_revert_9 : decode cX4_revert 9 = .ok (.astore_n 3, 1) := by decide +kernel
theorem dX4_revert_10 : decode cX4_revert 10 = .ok (.aload_n 3, 1) := by decide +kernel
theorem dX4_revert_11 : decode cX4_revert 11 = .ok (.getfield 133, 3) := by decide +kernel
theorem dX4_revert_14 : decode cX4_revert 14 = .ok (.astore 4, 2) := by decide +kernel
theorem dX4_revert_16 : decode cX4_revert 16 = .ok (.aload 4, 2) := by decide +kernel
theorem dX4_revert_18 : decode cX4_revert 18 = .ok (.getfield 137, 3) := by decide +kernel
theorem dX4_revert_21 : decode cX4_revert 21 = .ok (.ifnull 10, 3) := by decide +kernel
theorem dX4_revert_24 : decode cX4_revert 24 = .ok (.aload_n 0, 1) := by decide +kernel
theorem dX4_revert_25 : decode cX4_revert 25 = .ok (.invokevirtual 69, 3) := by decide +kernel
theorem dX4_revert_28 : decode cX4_revert 28 = .ok (.ifCond .eq 13, 3) := by decide +kernel
theorem dX4_revert_31 : decode cX4_revert 31 = .ok (.new 73, 3) := by decide +kernel
theorem dX4_revert_34 : decode cX4_revert 34 = .ok (.dup, 1) := by decide +kernel
theorem dX4_revert_35 : decode cX4_revert 35 = .ok (.ldc 142, 2) := by decide +kernel
theorem dX4_revert_37 : decode cX4_revert 37 = .ok (.invokespecial 77, 3) := by decide +kernel
theorem dX4_revert_40 : decode cX4_revert 40 = .ok (.athrow, 1) := by decide +kernel
theorem dX4_revert_41 : decode cX4_revert 41 = .ok (.aload 4, 2) := by decide +kernel
theorem dX4_revert_43 : decode cX4_revert 43 = .ok (.getfield 144, 3) := by decide +kernel
theorem dX4_revert_46 : decode cX4_revert 46 = .ok (.getfield 124, 3) := by decide +kernel
theorem dX4_revert_49 : decode cX4_revert 49 = .ok (.istore 5, 2) := by decide +kernel
theorem dX4_revert_51 : decode cX4_revert 51 = .ok (.iload 5, 2) := by decide +kernel
theorem dX4_revert_53 : decode cX4_revert 53 = .ok (.iconst (-1), 1) := by decide +kernel
theorem dX4_revert_54 : decode cX4_revert 54 = .ok (.if_icmp .eq 19, 3) := by decide +kernel
theorem dX4_revert_57 : decode cX4_revert 57 = .ok (.aload_n 0, 1) := by decide +kernel
theorem dX4_revert_58 : decode cX4_revert 58 = .ok (.getfield 16, 3) := by decide +kernel
theorem dX4_revert_61 : decode cX4_revert 61 = .ok (.iload_n 1, 1) := by decide +kernel
theorem dX4_revert_62 : decode cX4_revert 62 = .ok (.iaload, 1) := by decide +kernel
theorem dX4_revert_63 : decode cX4_revert 63 = .ok (.aload_n 0, 1) := by decide +kernel
theorem dX4_revert_64 : decode cX4_revert 64 = .ok (.getfield 16, 3) := by decide +kernel
theorem dX4_revert_67 : decode cX4_revert 67 = .ok (.iload 5, 2) := by decide +kernel
theorem dX4_revert_69 : decode cX4_revert 69 = .ok (.iaload, 1) := by decide +kernel
theorem dX4_revert_70 : decode cX4_revert 70 = .ok (.if_icmp .gt 13, 3) := by decide +kernel
theorem dX4_revert_73 : decode cX4_revert 73 = .ok (.new 73, 3) := by decide +kernel
theorem dX4_revert_76 : decode cX4_revert 76 = .ok (.dup, 1) := by decide +kernel
theorem dX4_revert_77 : decode cX4_revert 77 = .ok (.ldc 147, 2) := by decide +kernel
theorem dX4_revert_79 : decode cX4_revert 79 = .ok (.invokespecial 77, 3) := by decide +kernel
theorem dX4_revert_82 : decode cX4_revert 82 = .ok (.athrow, 1) := by decide +kernel
theorem dX4_revert_83 : decode cX4_revert 83 = .ok (.aload 4, 2) := by decide +kernel
theorem dX4_revert_85 : decode cX4_revert 85 = .ok (.getfield 137, 3) := by decide +kernel
theorem dX4_revert_88 : decode cX4_revert 88 = .ok (.getfield 144, 3) := by decide +kernel
theorem dX4_revert_91 : decode cX4_revert 91 = .ok (.astore 6, 2) := by decide +kernel
theorem dX4_revert_93 : decode cX4_revert 93 = .ok (.aload_n 0, 1) := by decide +kernel
theorem dX4_revert_94 : decode cX4_revert 94 = .ok (.aload_n 3, 1) := by decide +kernel
theorem dX4_revert_95 : decode cX4_revert 95 = .ok (.new 80, 3) := by decide +kernel
theorem dX4_revert_98 : decode cX4_revert 98 = .ok (.dup, 1) := by decide +kernel
theorem dX4_revert_99 : decode cX4_revert 99 = .ok (.aload 6, 2) := by decide +kernel
theorem dX4_revert_101 : decode cX4_revert 101 = .ok (.getfield 149, 3) := by decide +kernel
theorem dX4_revert_104 : decode cX4_revert 104 = .ok (.aload 6, 2) := by decide +kernel
theorem dX4_revert_106 : decode cX4_revert 106 = .ok (.getfield 151, 3) := by decide +kernel
theorem dX4_revert_109 : decode cX4_revert 109 = .ok (.iload_n 1, 1) := by decide +kernel
theorem dX4_revert_110 : decode cX4_revert 110 = .ok (.invokespecial 82, 3) := by decide +kernel
theorem dX4_revert_113 : decode cX4_revert 113 = .ok (.invokevirtual 120, 3) := by decide +kernel
theorem dX4_revert_116 : decode cX4_revert 116 = .ok (.aload_n 0, 1) := by decide +kernel
theorem dX4_revert_117 : decode cX4_revert 117 = .ok (.iload 5, 2) := by decide +kernel
theorem dX4_revert_119 : decode cX4_revert 119 = .ok (.bipush (-10), 2) := by decide +kernel
theorem dX4_revert_121 : decode cX4_revert 121 = .ok (.invokevirtual 129, 3) := by decide +kernel
theorem dX4_revert_124 : decode cX4_revert 124 = .ok (.ireturn, 1) := by decide +kernel
set_option maxRecDepth 20000 in
theorem ggX4_guard_X4_wayAt : GoodIn wsX4_guard wsX4_wayAt := goodIn_ca (goodIn_r _ [8, 9, 10, 11, 12, 13, 14, 15, 16, 17, 18, 19, 20, 21, 22, 23, 24, 25, 26, 27, 28, 29, 30, 31, 32, 33, 34, 35, 47, 48, 49, 50, 51, 52, 53, 54, 55] (by decide +kernel) (by decide +kernel)) (goodIn_sub (fun _ h => List.mem_cons_of_mem _ (List.mem_append_right _ h)) (by decide +kernel))
set_option maxRecDepth 20000 in
theorem gX4_guard_X4_wayAt : GoodIn wsX4_guard (wsV RX4 96 RX4 yX4_wayAt wsX4_wayAt) := goodIn_app (goodIn_of _ (by decide +kernel)) ggX4_guard_X4_wayAt
set_option maxRecDepth 20000 in
theorem ggX4_guard_X4_isIn : GoodIn wsX4_guard wsX4_isIn := goodIn_r _ [38] (by decide +kernel) (by decide +kernel)
set_option maxRecDepth 20000 in
theorem gX4_guard_X4_isIn : GoodIn wsX4_guard (va_wsS RX4 50 yX4_isIn wsX4_isIn) := goodIn_app (goodIn_of _ (by decide +kernel)) ggX4_guard_X4_isIn
theorem dX4_guard_0 : decode cX4_guard 0 = .ok (.aload_n 0, 1) := by decide +kernel
theorem dX4_guard_1 : decode cX4_guard 1 = .ok (.iload_n 1, 1) := by decide +kernel
theorem dX4_guard_2 : decode cX4_guard 2 = .ok (.invokevirtual 96, 3) := by decide +kernel
theorem dX4_guard_5 : decode cX4_guard 5 = .ok (.astore_n 3, 1) := by decide +kernel
theorem dX4_guard_6 : decode cX4_guard 6 = .ok (.iload_n 2, 1) := by decide +kernel
theorem dX4_guard_7 : decode cX4_guard 7 = .ok (.iconst 0, 1) := by decide +kernel
theorem dX4_guard_8 : decode cX4_guard 8 = .ok (.bipush 100, 2) := by decide +kernel
theorem dX4_guard_10 : decode cX4_guard 10 = .ok (.invokestatic 50, 3) := by decide +kernel
theorem dX4_guard_13 : decode cX4_guard 13 = .ok (.ifCond .ne 13, 3) := by decide +kernel
theorem dX4_guard_16 : decode cX4_guard 16 = .ok (.new 58, 3) := by decide +kernel
theorem dX4_guard_19 : decode cX4_guard 19 = .ok (.dup, 1) := by decide +kernel
theorem dX4_guard_20 : decode cX4_guard 20 = .ok (.ldc 153, 2) := by decide +kernel
theorem dX4_guard_22 : decode cX4_guard 22 = .ok (.invokespecial 62, 3) := by decide +kernel
theorem dX4_guard_25 : decode cX4_guard 25 = .ok (.athrow, 1) := by decide +kernel
theorem dX4_guard_26 : decode cX4_guard 26 = .ok (.aload_n 3, 1) := by decide +kernel
theorem dX4_guard_27 : decode cX4_guard 27 = .ok (.getfield 113, 3) := by decide +kernel
theorem dX4_guard_30 : decode cX4_guard 30 = .ok (.istore 4, 2) := by decide +kernel
theorem dX4_guard_32 : decode cX4_guard 32 = .ok (.aload_n 3, 1) := by decide +kernel
theorem dX4_guard_33 : decode cX4_guard 33 = .ok (.iload_n 2, 1) := by decide +kernel
theorem dX4_guard_34 : decode cX4_guard 34 = .ok (.putfield 113, 3) := by decide +kernel
theorem dX4_guard_37 : decode cX4_guard 37 = .ok (.iload 4, 2) := by decide +kernel
theorem dX4_guard_39 : decode cX4_guard 39 = .ok (.ireturn, 1) := by decide +kernel
set_option maxRecDepth 20000 in
theorem ggX4_trust_X4_requireEditor : GoodIn wsX4_trust wsX4_requireEditor := goodIn_ca (goodIn_r _ [5, 6, 7, 8, 9, 4, 10] (by decide +kernel) (by decide +kernel)) (goodIn_sub (fun _ h => List.mem_cons_of_mem _ (List.mem_append_right _ h)) (by decide +kernel))
set_option maxRecDepth 20000 in
theorem gX4_trust_X4_requireEditor : GoodIn wsX4_trust (va_wsS RX4 42 yX4_requireEditor wsX4_requireEditor) := goodIn_app (goodIn_of _ (by decide +kernel)) ggX4_trust_X4_requireEditor
theorem dX4_trust_0 : decode cX4_trust 0 = .ok (.iload_n 1, 1) := by decide +kernel
theorem dX4_trust_1 : decode cX4_trust 1 = .ok (.invokestatic 42, 3) := by decide +kernel
theorem dX4_trust_4 : decode cX4_trust 4 = .ok (.aload_n 0, 1) := by decide +kernel
theorem dX4_trust_5 : decode cX4_trust 5 = .ok (.getfield 16, 3) := by decide +kernel
theorem dX4_trust_8 : decode cX4_trust 8 = .ok (.iload_n 1, 1) := by decide +kernel
theorem dX4_trust_9 : decode cX4_trust 9 = .ok (.iaload, 1) := by decide +kernel
theorem dX4_trust_10 : decode cX4_trust 10 = .ok (.ireturn, 1) := by decide +kernel
set_option maxRecDepth 20000 in
theorem ggX4_ways_Jx4a65c_size_8abf5 : GoodIn wsX4_ways wsJx4a65c_size_8abf5 := goodIn_r _ [6, 7, 14, 15, 16] (by decide +kernel) (by decide +kernel)
set_option maxRecDepth 20000 in
theorem gX4_ways_Jx4a65c_size_8abf5 : GoodIn wsX4_ways (wsV RX4 65 RJx4a65c yJx4a65c_size_8abf5 wsJx4a65c_size_8abf5) := goodIn_app (goodIn_of _ (by decide +kernel)) ggX4_ways_Jx4a65c_size_8abf5
theorem dX4_ways_0 : decode cX4_ways 0 = .ok (.aload_n 0, 1) := by decide +kernel
theorem dX4_ways_1 : decode cX4_ways 1 = .ok (.getfield 10, 3) := by decide +kernel
theorem dX4_ways_4 : decode cX4_ways 4 = .ok (.invokevirtual 65, 3) := by decide +kernel
theorem dX4_ways_7 : decode cX4_ways 7 = .ok (.ireturn, 1) := by decide +kernel
set_option maxRecDepth 20000 in
theorem ggX4_versions_X4_wayAt : GoodIn wsX4_versions wsX4_wayAt := goodIn_ca (goodIn_r _ [5, 6, 7, 8, 9, 10, 11, 12, 13, 14, 15, 16, 17, 18, 19, 20, 21, 22, 23, 24, 25, 26, 27, 28, 29, 30, 31, 32, 40, 41, 42, 43, 44, 45, 46, 47, 48] (by decide +kernel) (by decide +kernel)) (goodIn_sub (fun _ h => List.mem_cons_of_mem _ (List.mem_append_right _ h)) (by decide +kernel))
set_option maxRecDepth 20000 in
theorem gX4_versions_X4_wayAt : GoodIn wsX4_versions (wsV RX4 96 RX4 yX4_wayAt wsX4_wayAt) := goodIn_app (goodIn_of _ (by decide +kernel)) ggX4_versions_X4_wayAt
set_option maxRecDepth 20000 in
theorem ggX4_versions_X3_versionCount : GoodIn wsX4_versions wsX3_versionCount := goodIn_r _ [37, 38, 39, 49, 50, 51, 52, 53, 54, 55, 56, 57, 58, 59, 60] (by decide +kernel) (by decide +kernel)
set_option maxRecDepth 20000 in
theorem gX4_versions_X3_versionCount : GoodIn wsX4_versions (wsV RX4 155 RX3 yX3_versionCount wsX3_versionCount) := goodIn_app (goodIn_of _ (by decide +kernel)) ggX4_versions_X3_versionCount
theorem dX4_versions_0 : decode cX4_versions 0 = .ok (.aload_n 0, 1) := by decide +kernel
theorem dX4_versions_1 : decode cX4_versions 1 = .ok (.iload_n 1, 1) := by decide +kernel
theorem dX4_versions_2 : decode cX4_versions 2 = .ok (.invokevirtual 96, 3) := by decide +kernel
theorem dX4_versions_5 : decode cX4_versions 5 = .ok (.invokevirtual 155, 3) := by decide +kernel
theorem dX4_versions_8 : decode cX4_versions 8 = .ok (.ireturn, 1) := by decide +kernel
set_option maxRecDepth 20000 in
theorem ggX4_version_X4_wayAt : GoodIn wsX4_version wsX4_wayAt := goodIn_ca (goodIn_r _ [6, 7, 8, 9, 10, 11, 12, 13, 14, 15, 16, 17, 18, 19, 20, 21, 22, 23, 24, 25, 26, 27, 28, 29, 30, 31, 32, 33, 52, 53, 54, 55, 56, 57, 58, 59, 60] (by decide +kernel) (by decide +kernel)) (goodIn_sub (fun _ h => List.mem_cons_of_mem _ (List.mem_append_right _ h)) (by decide +kernel))
set_option maxRecDepth 20000 in
theorem gX4_version_X4_wayAt : GoodIn wsX4_version (wsV RX4 96 RX4 yX4_wayAt wsX4_wayAt) := goodIn_app (goodIn_of _ (by decide +kernel)) ggX4_version_X4_wayAt
set_option maxRecDepth 20000 in
theorem ggX4_version_X4_versionAt : GoodIn wsX4_version wsX4_versionAt := goodIn_ca (goodIn_r _ [36, 7, 8, 37, 38, 39, 61, 62, 63, 64, 65, 66, 67, 68, 48, 49, 50, 51] (by decide +kernel) (by decide +kernel)) (goodIn_sub (fun _ h => List.mem_cons_of_mem _ (List.mem_append_right _ h)) (by decide +kernel))
set_option maxRecDepth 20000 in
theorem gX4_version_X4_versionAt : GoodIn wsX4_version (va_wsS RX4 158 yX4_versionAt wsX4_versionAt) := goodIn_app (goodIn_of _ (by decide +kernel)) ggX4_version_X4_versionAt
set_option maxRecDepth 20000 in
theorem ggX4_version_X0_coded : GoodIn wsX4_version wsX0_coded := goodIn_r _ [44, 45, 46, 47, 69, 70, 71] (by decide +kernel) (by decide +kernel)
set_option maxRecDepth 20000 in
theorem gX4_version_X0_coded : GoodIn wsX4_version (wsV RX4 162 RX0 yX0_coded wsX0_coded) := goodIn_app (goodIn_of _ (by decide +kernel)) ggX4_version_X0_coded
theorem dX4_version_0 : decode cX4_version 0 = .ok (.aload_n 0, 1) := by decide +kernel
theorem dX4_version_1 : decode cX4_version 1 = .ok (.iload_n 1, 1) := by decide +kernel
theorem dX4_version_2 : decode cX4_version 2 = .ok (.invokevirtual 96, 3) := by decide +kernel
theorem dX4_version_5 : decode cX4_version 5 = .ok (.iload_n 2, 1) := by decide +kernel
theorem dX4_version_6 : decode cX4_version 6 = .ok (.invokestatic 158, 3) := by decide +kernel
theorem dX4_version_9 : decode cX4_version 9 = .ok (.getfield 144, 3) := by decide +kernel
theorem dX4_version_12 : decode cX4_version 12 = .ok (.invokevirtual 162, 3) := by decide +kernel
theorem dX4_version_15 : decode cX4_version 15 = .ok (.ireturn, 1) := by decide +kernel
set_option maxRecDepth 20000 in
theorem ggX4_stampOf_X4_wayAt : GoodIn wsX4_stampOf wsX4_wayAt := goodIn_ca (goodIn_r _ [6, 7, 8, 9, 10, 11, 12, 13, 14, 15, 16, 17, 18, 19, 20, 21, 22, 23, 24, 25, 26, 27, 28, 29, 30, 31, 32, 33, 44, 45, 46, 47, 48, 49, 50, 51, 52] (by decide +kernel) (by decide +kernel)) (goodIn_sub (fun _ h => List.mem_cons_of_mem _ (List.mem_append_right _ h)) (by decide +kernel))
set_option maxRecDepth 20000 in
theorem gX4_stampOf_X4_wayAt : GoodIn wsX4_stampOf (wsV RX4 96 RX4 yX4_wayAt wsX4_wayAt) := goodIn_app (goodIn_of _ (by decide +kernel)) ggX4_stampOf_X4_wayAt
set_option maxRecDepth 20000 in
theorem ggX4_stampOf_X4_versionAt : GoodIn wsX4_stampOf wsX4_versionAt := goodIn_ca (goodIn_r _ [36, 7, 8, 37, 38, 39, 53, 54, 55, 56, 57, 58, 59, 60, 40, 41, 42, 43] (by decide +kernel) (by decide +kernel)) (goodIn_sub (fun _ h => List.mem_cons_of_mem _ (List.mem_append_right _ h)) (by decide +kernel))
set_option maxRecDepth 20000 in
theorem gX4_stampOf_X4_versionAt : GoodIn wsX4_stampOf (va_wsS RX4 158 yX4_versionAt wsX4_versionAt) := goodIn_app (goodIn_of _ (by decide +kernel)) ggX4_stampOf_X4_versionAt
theorem dX4_stampOf_0 : decode cX4_stampOf 0 = .ok (.aload_n 0, 1) := by decide +kernel
theorem dX4_stampOf_1 : decode cX4_stampOf 1 = .ok (.iload_n 1, 1) := by decide +kernel
theorem dX4_stampOf_2 : decode cX4_stampOf 2 = .ok (.invokevirtual 96, 3) := by decide +kernel
theorem dX4_stampOf_5 : decode cX4_stampOf 5 = .ok (.iload_n 2, 1) := by decide +kernel
theorem dX4_stampOf_6 : decode cX4_stampOf 6 = .ok (.invokestatic 158, 3) := by decide +kernel
theorem dX4_stampOf_9 : decode cX4_stampOf 9 = .ok (.getfield 165, 3) := by decide +kernel
theorem dX4_stampOf_12 : decode cX4_stampOf 12 = .ok (.ireturn, 1) := by decide +kernel
set_option maxRecDepth 20000 in
theorem ggX4_waiting_X4_wayAt : GoodIn wsX4_waiting wsX4_wayAt := goodIn_ca (goodIn_r _ [6, 7, 8, 9, 10, 11, 12, 13, 14, 15, 16, 17, 18, 19, 20, 21, 22, 23, 24, 25, 26, 27, 28, 29, 30, 31, 32, 33, 50, 51, 52, 53, 54, 55, 56, 57, 58] (by decide +kernel) (by decide +kernel)) (goodIn_sub (fun _ h => List.mem_cons_of_mem _ (List.mem_append_right _ h)) (by decide +kernel))
set_option maxRecDepth 20000 in
theorem gX4_waiting_X4_wayAt : GoodIn wsX4_waiting (wsV RX4 96 RX4 yX4_wayAt wsX4_wayAt) := goodIn_app (goodIn_of _ (by decide +kernel)) ggX4_waiting_X4_wayAt
set_option maxRecDepth 20000 in
theorem ggX4_waiting_X0_coded : GoodIn wsX4_waiting wsX0_coded := goodIn_r _ [38, 39, 40, 41, 59, 60, 61] (by decide +kernel) (by decide +kernel)
set_option maxRecDepth 20000 in
theorem gX4_waiting_X0_coded : GoodIn wsX4_waiting (wsV RX4 162 RX0 yX0_coded wsX0_coded) := goodIn_app (goodIn_of _ (by decide +kernel)) ggX4_waiting_X0_coded
theorem dX4_waiting_0 : decode cX4_waiting 0 = .ok (.aload_n 0, 1) := by decide +kernel
theorem dX4_waiting_1 : decode cX4_waiting 1 = .ok (.iload_n 1, 1) := by decide +kernel
theorem dX4_waiting_2 : decode cX4_waiting 2 = .ok (.invokevirtual 96, 3) := by decide +kernel
theorem dX4_waiting_5 : decode cX4_waiting 5 = .ok (.getfield 116, 3) := by decide +kernel
theorem dX4_waiting_8 : decode cX4_waiting 8 = .ok (.astore_n 2, 1) := by decide +kernel
theorem dX4_waiting_9 : decode cX4_waiting 9 = .ok (.aload_n 2, 1) := by decide +kernel
theorem dX4_waiting_10 : decode cX4_waiting 10 = .ok (.ifnonnull 7, 3) := by decide +kernel
theorem dX4_waiting_13 : decode cX4_waiting 13 = .ok (.iconst (-1), 1) := by decide +kernel
theorem dX4_waiting_14 : decode cX4_waiting 14 = .ok (.goto 7, 3) := by decide +kernel
theorem dX4_waiting_17 : decode cX4_waiting 17 = .ok (.aload_n 2, 1) := by decide +kernel
theorem dX4_waiting_18 : decode cX4_waiting 18 = .ok (.invokevirtual 162, 3) := by decide +kernel
theorem dX4_waiting_21 : decode cX4_waiting 21 = .ok (.ireturn, 1) := by decide +kernel
theorem dX4_clock_0 : decode cX4_clock 0 = .ok (.aload_n 0, 1) := by decide +kernel
theorem dX4_clock_1 : decode cX4_clock 1 = .ok (.getfield 32, 3) := by decide +kernel
theorem dX4_clock_4 : decode cX4_clock 4 = .ok (.ireturn, 1) := by decide +kernel
set_option maxRecDepth 20000 in
theorem ggX4_draw_X4_tileIndex : GoodIn wsX4_draw wsX4_tileIndex := goodIn_ca (goodIn_r _ [8, 9, 10, 11, 12, 13, 7, 14, 15, 16, 17, 18, 19, 20] (by decide +kernel) (by decide +kernel)) (goodIn_sub (fun _ h => List.mem_cons_of_mem _ (List.mem_append_right _ h)) (by decide +kernel))
set_option maxRecDepth 20000 in
theorem gX4_draw_X4_tileIndex : GoodIn wsX4_draw (va_wsS RX4 168 yX4_tileIndex wsX4_tileIndex) := goodIn_app (goodIn_of _ (by decide +kernel)) ggX4_draw_X4_tileIndex
set_option maxRecDepth 20000 in
theorem ggX4_draw_X1_init : GoodIn wsX4_draw wsX1_init := goodIn_r _ [23, 24, 25, 26, 27, 28, 29, 30, 31, 32, 33, 109, 110, 111, 112, 113, 114, 115] (by decide +kernel) (by decide +kernel)
set_option maxRecDepth 20000 in
theorem gX4_draw_X1_init : GoodIn wsX4_draw (wsX1_init) := ggX4_draw_X1_init
set_option maxRecDepth 20000 in
theorem ggX4_draw_X4_keepPicture : GoodIn wsX4_draw wsX4_keepPicture := goodIn_r _ [37, 38, 39, 40, 41, 42, 43, 7, 44, 45, 46, 47, 48, 49, 50, 51, 52, 53, 54, 55, 56, 57, 58, 59, 60, 61, 62, 63, 64, 65, 66, 67, 68, 69, 70, 71, 72, 73, 74, 75, 76, 77, 78, 79, 80, 81, 82, 83, 84, 85, 86, 87, 88, 89, 90, 91, 92, 93, 94, 95, 4, 96, 97, 98, 29, 103, 104, 105, 106, 107, 108, 109, 110, 111, 112, 113, 114, 115, 116, 117, 118, 119, 120, 121, 122, 123, 124, 125, 126, 127, 128, 129, 130, 131, 132, 133] (by decide +kernel) (by decide +kernel)
set_option maxRecDepth 20000 in
theorem gX4_draw_X4_keepPicture : GoodIn wsX4_draw (wsV RX4 173 RX4 yX4_keepPicture wsX4_keepPicture) := goodIn_app (goodIn_of _ (by decide +kernel)) ggX4_draw_X4_keepPicture
set_option maxRecDepth 20000 in
theorem ggX4_draw_X4_countWaysIn : GoodIn wsX4_draw wsX4_countWaysIn := goodIn_r _ [102, 45, 46, 39, 49, 50, 51, 52, 53, 54, 55, 56, 57, 58, 59, 60, 61, 62, 63, 64, 65, 66, 67, 68, 69, 70, 71, 72, 73, 74, 75, 76, 77, 78, 79, 80, 81, 82, 83, 84, 85, 86, 87, 88, 89, 90, 91, 92, 93, 94, 95, 4, 96, 97, 98, 29, 103, 104, 105, 106, 107, 108, 109, 110, 111, 112, 113, 114, 115, 119, 120, 121, 122, 123, 124, 125, 126, 127, 128, 129, 130, 131, 132, 133, 116, 117, 118] (by decide +kernel) (by decide +kernel)
set_option maxRecDepth 20000 in
theorem gX4_draw_X4_countWaysIn : GoodIn wsX4_draw (wsV RX4 177 RX4 yX4_countWaysIn wsX4_countWaysIn) := goodIn_app (goodIn_of _ (by decide +kernel)) ggX4_draw_X4_countWaysIn
theorem dX4_draw_0 : decode cX4_draw 0 = .ok (.iload_n 1, 1) := by decide +kernel
theorem dX4_draw_1 : decode cX4_draw 1 = .ok (.iload_n 2, 1) := by decide +kernel
theorem dX4_draw_2 : decode cX4_draw 2 = .ok (.iload_n 3, 1) := by decide +kernel
theorem dX4_draw_3 : decode cX4_draw 3 = .ok (.invokestatic 168, 3) := by decide +kernel
theorem dX4_draw_6 : decode cX4_draw 6 = .ok (.istore 4, 2) := by decide +kernel
theorem dX4_draw_8 : decode cX4_draw 8 = .ok (.aload_n 0, 1) := by decide +kernel
theorem dX4_draw_9 : decode cX4_draw 9 = .ok (.getfield 28, 3) := by decide +kernel
theorem dX4_draw_12 : decode cX4_draw 12 = .ok (.iload 4, 2) := by decide +kernel
theorem dX4_draw_14 : decode cX4_draw 14 = .ok (.aaload, 1) := by decide +kernel
theorem dX4_draw_15 : decode cX4_draw 15 = .ok (.astore 5, 2) := by decide +kernel
theorem dX4_draw_17 : decode cX4_draw 17 = .ok (.aload 5, 2) := by decide +kernel
theorem dX4_draw_19 : decode cX4_draw 19 = .ok (.ifnonnull 24, 3) := by decide +kernel
theorem dX4_draw_22 : decode cX4_draw 22 = .ok (.new 26, 3) := by decide +kernel
theorem dX4_draw_25 : decode cX4_draw 25 = .ok (.dup, 1) := by decide +kernel
theorem dX4_draw_26 : decode cX4_draw 26 = .ok (.iload_n 1, 1) := by decide +kernel
theorem dX4_draw_27 : decode cX4_draw 27 = .ok (.iload_n 2, 1) := by decide +kernel
theorem dX4_draw_28 : decode cX4_draw 28 = .ok (.iload_n 3, 1) := by decide +kernel
theorem dX4_draw_29 : decode cX4_draw 29 = .ok (.invokespecial 172, 3) := by decide +kernel
theorem dX4_draw_32 : decode cX4_draw 32 = .ok (.astore 5, 2) := by decide +kernel
theorem dX4_draw_34 : decode cX4_draw 34 = .ok (.aload_n 0, 1) := by decide +kernel
theorem dX4_draw_35 : decode cX4_draw 35 = .ok (.getfield 28, 3) := by decide +kernel
theorem dX4_draw_38 : decode cX4_draw 38 = .ok (.iload 4, 2) := by decide +kernel
theorem dX4_draw_40 : decode cX4_draw 40 = .ok (.aload 5, 2) := by decide +kernel
theorem dX4_draw_42 : decode cX4_draw 42 = .ok (.aastore, 1) := by decide +kernel
theorem dX4_draw_43 : decode cX4_draw 43 = .ok (.aload_n 0, 1) := by decide +kernel
theorem dX4_draw_44 : decode cX4_draw 44 = .ok (.aload 5, 2) := by decide +kernel
theorem dX4_draw_46 : decode cX4_draw 46 = .ok (.invokevirtual 173, 3) := by decide +kernel
theorem dX4_draw_49 : decode cX4_draw 49 = .ok (.aload_n 0, 1) := by decide +kernel
theorem dX4_draw_50 : decode cX4_draw 50 = .ok (.aload 5, 2) := by decide +kernel
theorem dX4_draw_52 : decode cX4_draw 52 = .ok (.invokevirtual 177, 3) := by decide +kernel
theorem dX4_draw_55 : decode cX4_draw 55 = .ok (.ireturn, 1) := by decide +kernel
set_option maxRecDepth 20000 in
theorem ggX4_picture_X4_drawnTile : GoodIn wsX4_picture wsX4_drawnTile := goodIn_ca (goodIn_ca (goodIn_r _ [6, 7, 8, 9, 10, 11, 5, 12, 13, 14, 15, 16, 17, 18, 19, 20, 21, 22, 23, 24, 32, 33, 34, 35, 36, 37] (by decide +kernel) (by decide +kernel)) (goodIn_sub (fun _ h => List.mem_cons_of_mem _ (List.mem_append_left _ (List.mem_append_right _ h))) (by decide +kernel))) (goodIn_sub (fun _ h => List.mem_cons_of_mem _ (List.mem_append_right _ h)) (by decide +kernel))
set_option maxRecDepth 20000 in
theorem gX4_picture_X4_drawnTile : GoodIn wsX4_picture (wsV RX4 181 RX4 yX4_drawnTile wsX4_drawnTile) := goodIn_app (goodIn_of _ (by decide +kernel)) ggX4_picture_X4_drawnTile
theorem dX4_picture_0 : decode cX4_picture 0 = .ok (.aload_n 0, 1) := by decide +kernel
theorem dX4_picture_1 : decode cX4_picture 1 = .ok (.iload_n 1, 1) := by decide +kernel
theorem dX4_picture_2 : decode cX4_picture 2 = .ok (.iload_n 2, 1) := by decide +kernel
theorem dX4_picture_3 : decode cX4_picture 3 = .ok (.iload_n 3, 1) := by decide +kernel
theorem dX4_picture_4 : decode cX4_picture 4 = .ok (.invokevirtual 181, 3) := by decide +kernel
theorem dX4_picture_7 : decode cX4_picture 7 = .ok (.getfield 185, 3) := by decide +kernel
theorem dX4_picture_10 : decode cX4_picture 10 = .ok (.ireturn, 1) := by decide +kernel
set_option maxRecDepth 20000 in
theorem ggX4_pictureAnew_X4_drawnTile : GoodIn wsX4_pictureAnew wsX4_drawnTile := goodIn_ca (goodIn_ca (goodIn_r _ [6, 7, 8, 9, 10, 11, 5, 12, 13, 14, 15, 16, 17, 18, 19, 20, 21, 22, 23, 24, 92, 93, 94, 95, 96, 97] (by decide +kernel) (by decide +kernel)) (goodIn_sub (fun _ h => List.mem_cons_of_mem _ (List.mem_append_left _ (List.mem_append_right _ h))) (by decide +kernel))) (goodIn_sub (fun _ h => List.mem_cons_of_mem _ (List.mem_append_right _ h)) (by decide +kernel))
set_option maxRecDepth 20000 in
theorem gX4_pictureAnew_X4_drawnTile : GoodIn wsX4_pictureAnew (wsV RX4 181 RX4 yX4_drawnTile wsX4_drawnTile) := goodIn_app (goodIn_of _ (by decide +kernel)) ggX4_pictureAnew_X4_drawnTile
set_option maxRecDepth 20000 in
theorem ggX4_pictureAnew_X4_pictureAt : GoodIn wsX4_pictureAnew wsX4_pictureAt := goodIn_r _ [28, 29, 30, 31, 32, 33, 34, 35, 36, 37, 38, 39, 40, 41, 42, 43, 44, 45, 46, 47, 48, 49, 50, 51, 52, 53, 54, 55, 56, 57, 58, 59, 60, 61, 62, 63, 64, 65, 66, 67, 68, 69, 70, 71, 72, 73, 74, 75, 76, 77, 78, 79, 80, 81, 82, 83, 84, 92, 93, 94, 95, 96, 97, 98, 99, 100, 101, 102, 103, 104, 105, 106, 107, 108, 109, 110, 111, 112, 113, 114, 115, 85, 86, 87, 88, 89, 90, 91] (by decide +kernel) (by decide +kernel)
set_option maxRecDepth 20000 in
theorem gX4_pictureAnew_X4_pictureAt : GoodIn wsX4_pictureAnew (wsV RX4 189 RX4 yX4_pictureAt wsX4_pictureAt) := goodIn_app (goodIn_of _ (by decide +kernel)) ggX4_pictureAnew_X4_pictureAt
theorem dX4_pictureAnew_0 : decode cX4_pictureAnew 0 = .ok (.aload_n 0, 1) := by decide +kernel
theorem dX4_pictureAnew_1 : decode cX4_pictureAnew 1 = .ok (.iload_n 1, 1) := by decide +kernel
theorem dX4_pictureAnew_2 : decode cX4_pictureAnew 2 = .ok (.iload_n 2, 1) := by decide +kernel
theorem dX4_pictureAnew_3 : decode cX4_pictureAnew 3 = .ok (.iload_n 3, 1) := by decide +kernel
theorem dX4_pictureAnew_4 : decode cX4_pictureAnew 4 = .ok (.invokevirtual 181, 3) := by decide +kernel
theorem dX4_pictureAnew_7 : decode cX4_pictureAnew 7 = .ok (.astore 4, 2) := by decide +kernel
theorem dX4_pictureAnew_9 : decode cX4_pictureAnew 9 = .ok (.aload_n 0, 1) := by decide +kernel
theorem dX4_pictureAnew_10 : decode cX4_pictureAnew 10 = .ok (.aload 4, 2) := by decide +kernel
theorem dX4_pictureAnew_12 : decode cX4_pictureAnew 12 = .ok (.aload 4, 2) := by decide +kernel
theorem dX4_pictureAnew_14 : decode cX4_pictureAnew 14 = .ok (.getfield 188, 3) := by decide +kernel
theorem dX4_pictureAnew_17 : decode cX4_pictureAnew 17 = .ok (.invokevirtual 189, 3) := by decide +kernel
theorem dX4_pictureAnew_20 : decode cX4_pictureAnew 20 = .ok (.ireturn, 1) := by decide +kernel
set_option maxRecDepth 20000 in
theorem ggX4_tileStamp_X4_tileIndex : GoodIn wsX4_tileStamp wsX4_tileIndex := goodIn_ca (goodIn_r _ [6, 7, 8, 9, 10, 11, 5, 12, 13, 14, 15, 16, 17, 18] (by decide +kernel) (by decide +kernel)) (goodIn_sub (fun _ h => List.mem_cons_of_mem _ (List.mem_append_right _ h)) (by decide +kernel))
set_option maxRecDepth 20000 in
theorem gX4_tileStamp_X4_tileIndex : GoodIn wsX4_tileStamp (va_wsS RX4 168 yX4_tileIndex wsX4_tileIndex) := goodIn_app (goodIn_of _ (by decide +kernel)) ggX4_tileStamp_X4_tileIndex
theorem dX4_tileStamp_0 : decode cX4_tileStamp 0 = .ok (.aload_n 0, 1) := by decide +kernel
theorem dX4_tileStamp_1 : decode cX4_tileStamp 1 = .ok (.getfield 28, 3) := by decide +kernel
theorem dX4_tileStamp_4 : decode cX4_tileStamp 4 = .ok (.iload_n 1, 1) := by decide +kernel
theorem dX4_tileStamp_5 : decode cX4_tileStamp 5 = .ok (.iload_n 2, 1) := by decide +kernel
theorem dX4_tileStamp_6 : decode cX4_tileStamp 6 = .ok (.iload_n 3, 1) := by decide +kernel
theorem dX4_tileStamp_7 : decode cX4_tileStamp 7 = .ok (.invokestatic 168, 3) := by decide +kernel
theorem dX4_tileStamp_10 : decode cX4_tileStamp 10 = .ok (.aaload, 1) := by decide +kernel
theorem dX4_tileStamp_11 : decode cX4_tileStamp 11 = .ok (.astore 4, 2) := by decide +kernel
theorem dX4_tileStamp_13 : decode cX4_tileStamp 13 = .ok (.aload 4, 2) := by decide +kernel
theorem dX4_tileStamp_15 : decode cX4_tileStamp 15 = .ok (.ifnonnull 7, 3) := by decide +kernel
theorem dX4_tileStamp_18 : decode cX4_tileStamp 18 = .ok (.iconst (-1), 1) := by decide +kernel
theorem dX4_tileStamp_19 : decode cX4_tileStamp 19 = .ok (.goto 8, 3) := by decide +kernel
theorem dX4_tileStamp_22 : decode cX4_tileStamp 22 = .ok (.aload 4, 2) := by decide +kernel
theorem dX4_tileStamp_24 : decode cX4_tileStamp 24 = .ok (.getfield 188, 3) := by decide +kernel
theorem dX4_tileStamp_27 : decode cX4_tileStamp 27 = .ok (.ireturn, 1) := by decide +kernel
set_option maxRecDepth 20000 in
theorem ggX4_isStale_X4_tileIndex : GoodIn wsX4_isStale wsX4_tileIndex := goodIn_ca (goodIn_r _ [5, 6, 7, 8, 9, 10, 4, 11, 12, 13, 14, 15, 16, 17] (by decide +kernel) (by decide +kernel)) (goodIn_sub (fun _ h => List.mem_cons_of_mem _ (List.mem_append_right _ h)) (by decide +kernel))
set_option maxRecDepth 20000 in
theorem gX4_isStale_X4_tileIndex : GoodIn wsX4_isStale (va_wsS RX4 168 yX4_tileIndex wsX4_tileIndex) := goodIn_app (goodIn_of _ (by decide +kernel)) ggX4_isStale_X4_tileIndex
set_option maxRecDepth 20000 in
theorem ggX4_isStale_X4_isOutdated : GoodIn wsX4_isStale wsX4_isOutdated := goodIn_r _ [21, 22, 23, 24, 25, 26, 27, 28, 29, 30, 31, 32, 33, 34, 35, 36, 37, 38, 39, 40, 41, 42, 43, 44, 45, 46, 47, 48, 49, 50, 51, 52, 53, 54, 55, 56, 57, 58, 59, 60, 61, 62, 63, 64, 65, 66, 67, 68, 69, 70, 71, 72, 73, 74, 75, 76, 77, 78, 79, 80, 81, 82, 83, 84, 85, 86, 87, 88, 89, 90, 91, 92, 93, 94, 95, 96, 97, 98, 99, 100, 101, 102, 103, 104, 105, 106] (by decide +kernel) (by decide +kernel)
set_option maxRecDepth 20000 in
theorem gX4_isStale_X4_isOutdated : GoodIn wsX4_isStale (wsV RX4 193 RX4 yX4_isOutdated wsX4_isOutdated) := goodIn_app (goodIn_of _ (by decide +kernel)) ggX4_isStale_X4_isOutdated
theorem dX4_isStale_0 : decode cX4_isStale 0 = .ok (.aload_n 0, 1) := by decide +kernel
theorem dX4_isStale_1 : decode cX4_isStale 1 = .ok (.aload_n 0, 1) := by decide +kernel
theorem dX4_isStale_2 : decode cX4_isStale 2 = .ok (.getfield 28, 3) := by decide +kernel
theorem dX4_isStale_5 : decode cX4_isStale 5 = .ok (.iload_n 1, 1) := by decide +kernel
theorem dX4_isStale_6 : decode cX4_isStale 6 = .ok (.iload_n 2, 1) := by decide +kernel
theorem dX4_isStale_7 : decode cX4_isStale 7 = .ok (.iload_n 3, 1) := by decide +kernel
theorem dX4_isStale_8 : decode cX4_isStale 8 = .ok (.invokestatic 168, 3) := by decide +kernel
theorem dX4_isStale_11 : decode cX4_isStale 11 = .ok (.aaload, 1) := by decide +kernel
theorem dX4_isStale_12 : decode cX4_isStale 12 = .ok (.invokevirtual 193, 3) := by decide +kernel
theorem dX4_isStale_15 : decode cX4_isStale 15 = .ok (.ireturn, 1) := by decide +kernel
set_option maxRecDepth 20000 in
theorem ggX4_staleTiles_X4_requireZoom : GoodIn wsX4_staleTiles wsX4_requireZoom := goodIn_ca (goodIn_r _ [6, 7, 8, 9, 10, 5, 11] (by decide +kernel) (by decide +kernel)) (goodIn_sub (fun _ h => List.mem_cons_of_mem _ (List.mem_append_right _ h)) (by decide +kernel))
set_option maxRecDepth 20000 in
theorem gX4_staleTiles_X4_requireZoom : GoodIn wsX4_staleTiles (va_wsS RX4 197 yX4_requireZoom wsX4_requireZoom) := goodIn_app (goodIn_of _ (by decide +kernel)) ggX4_staleTiles_X4_requireZoom
set_option maxRecDepth 20000 in
theorem ggX4_staleTiles_X4_tilesAcross : GoodIn wsX4_staleTiles wsX4_tilesAcross := goodIn_r _ [14] (by decide +kernel) (by decide +kernel)
set_option maxRecDepth 20000 in
theorem gX4_staleTiles_X4_tilesAcross : GoodIn wsX4_staleTiles (va_wsS RX4 203 yX4_tilesAcross wsX4_tilesAcross) := goodIn_app (goodIn_of _ (by decide +kernel)) ggX4_staleTiles_X4_tilesAcross
set_option maxRecDepth 20000 in
theorem ggX4_staleTiles_X4_isOutdated : GoodIn wsX4_staleTiles wsX4_isOutdated := goodIn_r _ [18, 19, 20, 21, 22, 23, 24, 25, 26, 27, 28, 29, 30, 31, 32, 33, 34, 35, 36, 37, 38, 39, 40, 41, 42, 43, 44, 45, 46, 47, 48, 49, 50, 51, 52, 53, 54, 55, 56, 57, 58, 59, 60, 61, 62, 63, 64, 65, 66, 67, 68, 69, 70, 71, 72, 73, 74, 75, 76, 77, 78, 79, 80, 81, 82, 83, 84, 85, 86, 87, 88, 89, 90, 91, 92, 93, 94, 95, 96, 97, 98, 99, 100, 101, 102, 103] (by decide +kernel) (by decide +kernel)
set_option maxRecDepth 20000 in
theorem gX4_staleTiles_X4_isOutdated : GoodIn wsX4_staleTiles (wsV RX4 193 RX4 yX4_isOutdated wsX4_isOutdated) := goodIn_app (goodIn_of _ (by decide +kernel)) ggX4_staleTiles_X4_isOutdated
theorem dX4_staleTiles_0 : decode cX4_staleTiles 0 = .ok (.iload_n 1, 1) := by decide +kernel
theorem dX4_staleTiles_1 : decode cX4_staleTiles 1 = .ok (.invokestatic 197, 3) := by decide +kernel
theorem dX4_staleTiles_4 : decode cX4_staleTiles 4 = .ok (.getstatic 200, 3) := by decide +kernel
theorem dX4_staleTiles_7 : decode cX4_staleTiles 7 = .ok (.iload_n 1, 1) := by decide +kernel
theorem dX4_staleTiles_8 : decode cX4_staleTiles 8 = .ok (.iaload, 1) := by decide +kernel
theorem dX4_staleTiles_9 : decode cX4_staleTiles 9 = .ok (.istore_n 2, 1) := by decide +kernel
theorem dX4_staleTiles_10 : decode cX4_staleTiles 10 = .ok (.iload_n 2, 1) := by decide +kernel
theorem dX4_staleTiles_11 : decode cX4_staleTiles 11 = .ok (.iload_n 1, 1) := by decide +kernel
theorem dX4_staleTiles_12 : decode cX4_staleTiles 12 = .ok (.invokestatic 203, 3) := by decide +kernel
theorem dX4_staleTiles_15 : decode cX4_staleTiles 15 = .ok (.iload_n 1, 1) := by decide +kernel
theorem dX4_staleTiles_16 : decode cX4_staleTiles 16 = .ok (.invokestatic 203, 3) := by decide +kernel
theorem dX4_staleTiles_19 : decode cX4_staleTiles 19 = .ok (.imul, 1) := by decide +kernel
theorem dX4_staleTiles_20 : decode cX4_staleTiles 20 = .ok (.iadd, 1) := by decide +kernel
theorem dX4_staleTiles_21 : decode cX4_staleTiles 21 = .ok (.istore_n 3, 1) := by decide +kernel
theorem dX4_staleTiles_22 : decode cX4_staleTiles 22 = .ok (.iconst 0, 1) := by decide +kernel
theorem dX4_staleTiles_23 : decode cX4_staleTiles 23 = .ok (.istore 4, 2) := by decide +kernel
theorem dX4_staleTiles_25 : decode cX4_staleTiles 25 = .ok (.iload_n 2, 1) := by decide +kernel
theorem dX4_staleTiles_26 : decode cX4_staleTiles 26 = .ok (.istore 5, 2) := by decide +kernel
theorem dX4_staleTiles_28 : decode cX4_staleTiles 28 = .ok (.iload 5, 2) := by decide +kernel
theorem dX4_staleTiles_30 : decode cX4_staleTiles 30 = .ok (.iload_n 3, 1) := by decide +kernel
theorem dX4_staleTiles_31 : decode cX4_staleTiles 31 = .ok (.if_icmp .ge 26, 3) := by decide +kernel
theorem dX4_staleTiles_34 : decode cX4_staleTiles 34 = .ok (.aload_n 0, 1) := by decide +kernel
theorem dX4_staleTiles_35 : decode cX4_staleTiles 35 = .ok (.aload_n 0, 1) := by decide +kernel
theorem dX4_staleTiles_36 : decode cX4_staleTiles 36 = .ok (.getfield 28, 3) := by decide +kernel
theorem dX4_staleTiles_39 : decode cX4_staleTiles 39 = .ok (.iload 5, 2) := by decide +kernel
theorem dX4_staleTiles_41 : decode cX4_staleTiles 41 = .ok (.aaload, 1) := by decide +kernel
theorem dX4_staleTiles_42 : decode cX4_staleTiles 42 = .ok (.invokevirtual 193, 3) := by decide +kernel
theorem dX4_staleTiles_45 : decode cX4_staleTiles 45 = .ok (.ifCond .eq 6, 3) := by decide +kernel
theorem dX4_staleTiles_48 : decode cX4_staleTiles 48 = .ok (.iinc 4 1, 3) := by decide +kernel
theorem dX4_staleTiles_51 : decode cX4_staleTiles 51 = .ok (.iinc 5 1, 3) := by decide +kernel
theorem dX4_staleTiles_54 : decode cX4_staleTiles 54 = .ok (.goto (-26), 3) := by decide +kernel
theorem dX4_staleTiles_57 : decode cX4_staleTiles 57 = .ok (.iload 4, 2) := by decide +kernel
theorem dX4_staleTiles_59 : decode cX4_staleTiles 59 = .ok (.ireturn, 1) := by decide +kernel
set_option maxRecDepth 20000 in
theorem ggX4_refresh_X4_isOutdated : GoodIn wsX4_refresh wsX4_isOutdated := goodIn_r _ [6, 7, 8, 9, 10, 11, 12, 13, 14, 15, 16, 17, 18, 19, 20, 21, 22, 23, 24, 25, 26, 27, 28, 29, 30, 31, 32, 33, 34, 35, 36, 37, 38, 39, 40, 41, 42, 43, 44, 45, 46, 47, 48, 49, 50, 51, 52, 53, 54, 55, 56, 57, 58, 59, 60, 79, 80, 81, 82, 83, 84, 85, 86, 87, 88, 89, 90, 91, 92, 93, 94, 95, 96, 97, 98, 99, 100, 101, 102, 103, 104, 105, 106, 107, 108, 109] (by decide +kernel) (by decide +kernel)
set_option maxRecDepth 20000 in
theorem gX4_refresh_X4_isOutdated : GoodIn wsX4_refresh (wsV RX4 193 RX4 yX4_isOutdated wsX4_isOutdated) := goodIn_app (goodIn_of _ (by decide +kernel)) ggX4_refresh_X4_isOutdated
set_option maxRecDepth 20000 in
theorem ggX4_refresh_X4_keepPicture : GoodIn wsX4_refresh wsX4_keepPicture := goodIn_r _ [64, 65, 66, 67, 68, 69, 70, 5, 71, 7, 8, 72, 73, 9, 10, 11, 12, 13, 14, 15, 16, 17, 18, 19, 20, 21, 22, 23, 24, 25, 26, 27, 28, 29, 30, 31, 74, 75, 76, 35, 77, 37, 38, 40, 78, 41, 42, 43, 44, 45, 46, 47, 48, 49, 50, 51, 52, 53, 54, 55, 56, 57, 58, 59, 60, 79, 80, 81, 82, 83, 84, 100, 101, 102, 103, 104, 105, 106, 107, 108, 109, 85, 86, 87, 88, 89, 90, 91, 92, 93, 94, 95, 96, 97, 98, 99] (by decide +kernel) (by decide +kernel)
set_option maxRecDepth 20000 in
theorem gX4_refresh_X4_keepPicture : GoodIn wsX4_refresh (wsV RX4 173 RX4 yX4_keepPicture wsX4_keepPicture) := goodIn_app (goodIn_of _ (by decide +kernel)) ggX4_refresh_X4_keepPicture
theorem dX4_refresh_0 : decode cX4_refresh 0 = .ok (.iconst 0, 1) := by decide +kernel
theorem dX4_refresh_1 : decode cX4_refresh 1 = .ok (.istore_n 1, 1) := by decide +kernel
theorem dX4_refresh_2 : decode cX4_refresh 2 = .ok (.iconst 0, 1) := by decide +kernel
theorem dX4_refresh_3 : decode cX4_refresh 3 = .ok (.istore_n 2, 1) := by decide +kernel
theorem dX4_refresh_4 : decode cX4_refresh 4 = .ok (.iload_n 2, 1) := by decide +kernel
theorem dX4_refresh_5 : decode cX4_refresh 5 = .ok (.aload_n 0, 1) := by decide +kernel
theorem dX4_refresh_6 : decode cX4_refresh 6 = .ok (.getfield 28, 3) := by decide +kernel
theorem dX4_refresh_9 : decode cX4_refresh 9 = .ok (.arraylength, 1) := by decide +kernel
theorem dX4_refresh_10 : decode cX4_refresh 10 = .ok (.if_icmp .ge 36, 3) := by decide +kernel
theorem dX4_refresh_13 : decode cX4_refresh 13 = .ok (.aload_n 0, 1) := by decide +kernel
theorem dX4_refresh_14 : decode cX4_refresh 14 = .ok (.getfield 28, 3) := by decide +kernel
theorem dX4_refresh_17 : decode cX4_refresh 17 = .ok (.iload_n 2, 1) := by decide +kernel
theorem dX4_refresh_18 : decode cX4_refresh 18 = .ok (.aaload, 1) := by decide +kernel
theorem dX4_refresh_19 : decode cX4_refresh 19 = .ok (.astore_n 3, 1) := by decide +kernel
theorem dX4_refresh_20 : decode cX4_refresh 20 = .ok (.aload_n 3, 1) := by decide +kernel
theorem dX4_refresh_21 : decode cX4_refresh 21 = .ok (.ifnull 19, 3) := by decide +kernel
theorem dX4_refresh_24 : decode cX4_refresh 24 = .ok (.aload_n 0, 1) := by decide +kernel
theorem dX4_refresh_25 : decode cX4_refresh 25 = .ok (.aload_n 3, 1) := by decide +kernel
theorem dX4_refresh_26 : decode cX4_refresh 26 = .ok (.invokevirtual 193, 3) := by decide +kernel
theorem dX4_refresh_29 : decode cX4_refresh 29 = .ok (.ifCond .eq 11, 3) := by decide +kernel
theorem dX4_refresh_32 : decode cX4_refresh 32 = .ok (.aload_n 0, 1) := by decide +kernel
theorem dX4_refresh_33 : decode cX4_refresh 33 = .ok (.aload_n 3, 1) := by decide +kernel
theorem dX4_refresh_34 : decode cX4_refresh 34 = .ok (.invokevirtual 173, 3) := by decide +kernel
theorem dX4_refresh_37 : decode cX4_refresh 37 = .ok (.iinc 1 1, 3) := by decide +kernel
theorem dX4_refresh_40 : decode cX4_refresh 40 = .ok (.iinc 2 1, 3) := by decide +kernel
theorem dX4_refresh_43 : decode cX4_refresh 43 = .ok (.goto (-39), 3) := by decide +kernel
theorem dX4_refresh_46 : decode cX4_refresh 46 = .ok (.iload_n 1, 1) := by decide +kernel
theorem dX4_refresh_47 : decode cX4_refresh 47 = .ok (.ireturn, 1) := by decide +kernel
set_option maxRecDepth 20000 in
theorem ggX4_drive_X4_requireCar : GoodIn wsX4_drive wsX4_requireCar := goodIn_ca (goodIn_r _ [6, 7, 8, 9, 10, 5, 11] (by decide +kernel) (by decide +kernel)) (goodIn_sub (fun _ h => List.mem_cons_of_mem _ (List.mem_append_right _ h)) (by decide +kernel))
set_option maxRecDepth 20000 in
theorem gX4_drive_X4_requireCar : GoodIn wsX4_drive (va_wsS RX4 207 yX4_requireCar wsX4_requireCar) := goodIn_app (goodIn_of _ (by decide +kernel)) ggX4_drive_X4_requireCar
set_option maxRecDepth 20000 in
theorem ggX4_drive_X4_requireCrossing : GoodIn wsX4_drive wsX4_requireCrossing := goodIn_ca (goodIn_r _ [14, 7, 8, 9, 10, 5, 11] (by decide +kernel) (by decide +kernel)) (goodIn_sub (fun _ h => List.mem_cons_of_mem _ (List.mem_append_right _ h)) (by decide +kernel))
set_option maxRecDepth 20000 in
theorem gX4_drive_X4_requireCrossing : GoodIn wsX4_drive (va_wsS RX4 46 yX4_requireCrossing wsX4_requireCrossing) := goodIn_app (goodIn_of _ (by decide +kernel)) ggX4_drive_X4_requireCrossing
set_option maxRecDepth 20000 in
theorem ggX4_drive_X4_distance : GoodIn wsX4_drive wsX4_distance := goodIn_r _ [17, 18, 19, 20, 21] (by decide +kernel) (by decide +kernel)
set_option maxRecDepth 20000 in
theorem gX4_drive_X4_distance : GoodIn wsX4_drive (va_wsS RX4 210 yX4_distance wsX4_distance) := goodIn_app (goodIn_of _ (by decide +kernel)) ggX4_drive_X4_distance
theorem dX4_drive_0 : decode cX4_drive 0 = .ok (.iload_n 1, 1) := by decide +kernel
theorem dX4_drive_1 : decode cX4_drive 1 = .ok (.invokestatic 207, 3) := by decide +kernel
theorem dX4_drive_4 : decode cX4_drive 4 = .ok (.iload_n 2, 1) := by decide +kernel
theorem dX4_drive_5 : decode cX4_drive 5 = .ok (.iload_n 3, 1) := by decide +kernel
theorem dX4_drive_6 : decode cX4_drive 6 = .ok (.invokestatic 46, 3) := by decide +kernel
theorem dX4_drive_9 : decode cX4_drive 9 = .ok (.aload_n 0, 1) := by decide +kernel
theorem dX4_drive_10 : decode cX4_drive 10 = .ok (.getfield 20, 3) := by decide +kernel
theorem dX4_drive_13 : decode cX4_drive 13 = .ok (.iload_n 1, 1) := by decide +kernel
theorem dX4_drive_14 : decode cX4_drive 14 = .ok (.iaload, 1) := by decide +kernel
theorem dX4_drive_15 : decode cX4_drive 15 = .ok (.aload_n 0, 1) := by decide +kernel
theorem dX4_drive_16 : decode cX4_drive 16 = .ok (.getfield 23, 3) := by decide +kernel
theorem dX4_drive_19 : decode cX4_drive 19 = .ok (.iload_n 1, 1) := by decide +kernel
theorem dX4_drive_20 : decode cX4_drive 20 = .ok (.iaload, 1) := by decide +kernel
theorem dX4_drive_21 : decode cX4_drive 21 = .ok (.iload_n 2, 1) := by decide +kernel
theorem dX4_drive_22 : decode cX4_drive 22 = .ok (.iload_n 3, 1) := by decide +kernel
theorem dX4_drive_23 : decode cX4_drive 23 = .ok (.invokestatic 210, 3) := by decide +kernel
theorem dX4_drive_26 : decode cX4_drive 26 = .ok (.istore 4, 2) := by decide +kernel
theorem dX4_drive_28 : decode cX4_drive 28 = .ok (.aload_n 0, 1) := by decide +kernel
theorem dX4_drive_29 : decode cX4_drive 29 = .ok (.getfield 20, 3) := by decide +kernel
theorem dX4_drive_32 : decode cX4_drive 32 = .ok (.iload_n 1, 1) := by decide +kernel
theorem dX4_drive_33 : decode cX4_drive 33 = .ok (.iload_n 2, 1) := by decide +kernel
theorem dX4_drive_34 : decode cX4_drive 34 = .ok (.iastore, 1) := by decide +kernel
theorem dX4_drive_35 : decode cX4_drive 35 = .ok (.aload_n 0, 1) := by decide +kernel
theorem dX4_drive_36 : decode cX4_drive 36 = .ok (.getfield 23, 3) := by decide +kernel
theorem dX4_drive_39 : decode cX4_drive 39 = .ok (.iload_n 1, 1) := by decide +kernel
theorem dX4_drive_40 : decode cX4_drive 40 = .ok (.iload_n 3, 1) := by decide +kernel
theorem dX4_drive_41 : decode cX4_drive 41 = .ok (.iastore, 1) := by decide +kernel
theorem dX4_drive_42 : decode cX4_drive 42 = .ok (.iload 4, 2) := by decide +kernel
theorem dX4_drive_44 : decode cX4_drive 44 = .ok (.ireturn, 1) := by decide +kernel
set_option maxRecDepth 20000 in
theorem ggX4_see_X4_requireCar : GoodIn wsX4_see wsX4_requireCar := goodIn_ca (goodIn_r _ [13, 14, 15, 16, 17, 12, 18] (by decide +kernel) (by decide +kernel)) (goodIn_sub (fun _ h => List.mem_cons_of_mem _ (List.mem_append_right _ h)) (by decide +kernel))
set_option maxRecDepth 20000 in
theorem gX4_see_X4_requireCar : GoodIn wsX4_see (va_wsS RX4 207 yX4_requireCar wsX4_requireCar) := goodIn_app (goodIn_of _ (by decide +kernel)) ggX4_see_X4_requireCar
set_option maxRecDepth 20000 in
theorem ggX4_see_X4_wayAt : GoodIn wsX4_see wsX4_wayAt := goodIn_ca (goodIn_r _ [22, 14, 15, 23, 24, 25, 26, 27, 28, 29, 30, 31, 32, 33, 34, 35, 36, 37, 38, 39, 40, 41, 42, 43, 44, 45, 46, 47, 141, 142, 143, 144, 145, 146, 150, 151, 152] (by decide +kernel) (by decide +kernel)) (goodIn_sub (fun _ h => List.mem_cons_of_mem _ (List.mem_append_right _ h)) (by decide +kernel))
set_option maxRecDepth 20000 in
theorem gX4_see_X4_wayAt : GoodIn wsX4_see (wsV RX4 96 RX4 yX4_wayAt wsX4_wayAt) := goodIn_app (goodIn_of _ (by decide +kernel)) ggX4_see_X4_wayAt
set_option maxRecDepth 20000 in
theorem ggX4_see_X4_isDirection : GoodIn wsX4_see wsX4_isDirection := goodIn_r _ [50, 16, 17, 12, 18] (by decide +kernel) (by decide +kernel)
set_option maxRecDepth 20000 in
theorem gX4_see_X4_isDirection : GoodIn wsX4_see (va_wsS RX4 100 yX4_isDirection wsX4_isDirection) := goodIn_app (goodIn_of _ (by decide +kernel)) ggX4_see_X4_isDirection
set_option maxRecDepth 20000 in
theorem ggX4_see_X4_isIn : GoodIn wsX4_see wsX4_isIn := goodIn_r _ [18] (by decide +kernel) (by decide +kernel)
set_option maxRecDepth 20000 in
theorem gX4_see_X4_isIn : GoodIn wsX4_see (va_wsS RX4 50 yX4_isIn wsX4_isIn) := goodIn_app (goodIn_of _ (by decide +kernel)) ggX4_see_X4_isIn
set_option maxRecDepth 20000 in
theorem ggX4_see_X3_distanceFrom : GoodIn wsX4_see wsX3_distanceFrom := goodIn_r _ [55, 56, 57, 58, 59, 60, 61, 62, 54, 63, 64, 65, 66, 12, 67, 68, 69, 70, 71, 72, 73, 74, 75, 76, 153, 154, 155, 156, 157, 158, 159, 160] (by decide +kernel) (by decide +kernel)
set_option maxRecDepth 20000 in
theorem gX4_see_X3_distanceFrom : GoodIn wsX4_see (wsV RX4 216 RX3 yX3_distanceFrom wsX3_distanceFrom) := goodIn_app (goodIn_of _ (by decide +kernel)) ggX4_see_X3_distanceFrom
set_option maxRecDepth 20000 in
theorem ggX4_see_X4_isFull : GoodIn wsX4_see wsX4_isFull := goodIn_r _ [80, 81, 141, 142, 143, 144, 145, 146] (by decide +kernel) (by decide +kernel)
set_option maxRecDepth 20000 in
theorem gX4_see_X4_isFull : GoodIn wsX4_see (wsV RX4 69 RX4 yX4_isFull wsX4_isFull) := goodIn_app (goodIn_of _ (by decide +kernel)) ggX4_see_X4_isFull
set_option maxRecDepth 20000 in
theorem ggX4_see_X3_keepSighting : GoodIn wsX4_see wsX3_keepSighting := goodIn_r _ [85, 86, 153, 154, 155, 156, 157, 158, 159, 160] (by decide +kernel) (by decide +kernel)
set_option maxRecDepth 20000 in
theorem gX4_see_X3_keepSighting : GoodIn wsX4_see (wsV RX4 221 RX3 yX3_keepSighting wsX3_keepSighting) := goodIn_app (goodIn_of _ (by decide +kernel)) ggX4_see_X3_keepSighting
set_option maxRecDepth 20000 in
theorem ggX4_see_X3_direction : GoodIn wsX4_see wsX3_direction := goodIn_r _ [90, 91, 92, 93, 153, 154, 155, 156, 157, 158, 159, 160, 161, 162, 163, 164, 147, 148, 149] (by decide +kernel) (by decide +kernel)
set_option maxRecDepth 20000 in
theorem gX4_see_X3_direction : GoodIn wsX4_see (wsV RX4 108 RX3 yX3_direction wsX3_direction) := goodIn_app (goodIn_of _ (by decide +kernel)) ggX4_see_X3_direction
set_option maxRecDepth 20000 in
theorem ggX4_see_X3_hasAgreementOn : GoodIn wsX4_see wsX3_hasAgreementOn := goodIn_r _ [97, 86, 153, 154, 155, 156, 157, 158, 159, 160] (by decide +kernel) (by decide +kernel)
set_option maxRecDepth 20000 in
theorem gX4_see_X3_hasAgreementOn : GoodIn wsX4_see (wsV RX4 224 RX3 yX3_hasAgreementOn wsX3_hasAgreementOn) := goodIn_app (goodIn_of _ (by decide +kernel)) ggX4_see_X3_hasAgreementOn
set_option maxRecDepth 20000 in
theorem ggX4_see_X3_kind : GoodIn wsX4_see wsX3_kind := goodIn_r _ [101, 91, 92, 102, 153, 154, 155, 156, 157, 158, 159, 160, 161, 162, 163, 164, 147, 148, 149] (by decide +kernel) (by decide +kernel)
set_option maxRecDepth 20000 in
theorem gX4_see_X3_kind : GoodIn wsX4_see (wsV RX4 105 RX3 yX3_kind wsX3_kind) := goodIn_app (goodIn_of _ (by decide +kernel)) ggX4_see_X3_kind
set_option maxRecDepth 20000 in
theorem ggX4_see_X0_init : GoodIn wsX4_see wsX0_init := goodIn_r _ [105, 106, 107, 108, 109, 110, 111, 147, 148, 149] (by decide +kernel) (by decide +kernel)
set_option maxRecDepth 20000 in
theorem gX4_see_X0_init : GoodIn wsX4_see (wsX0_init) := ggX4_see_X0_init
set_option maxRecDepth 20000 in
theorem ggX4_see_X4_addVersion : GoodIn wsX4_see wsX4_addVersion := goodIn_r _ [115, 116, 117, 118, 119, 120, 12, 121, 81, 122, 123, 124, 125, 126, 127, 128, 107, 108, 129, 130, 131, 132, 153, 154, 155, 156, 157, 158, 159, 160, 141, 142, 143, 144, 145, 146, 161, 162, 163, 164] (by decide +kernel) (by decide +kernel)
set_option maxRecDepth 20000 in
theorem gX4_see_X4_addVersion : GoodIn wsX4_see (wsV RX4 120 RX4 yX4_addVersion wsX4_addVersion) := goodIn_app (goodIn_of _ (by decide +kernel)) ggX4_see_X4_addVersion
set_option maxRecDepth 20000 in
theorem ggX4_see_X3_forgetSightings : GoodIn wsX4_see wsX3_forgetSightings := goodIn_r _ [136, 86, 137, 138, 139, 140, 153, 154, 155, 156, 157, 158, 159, 160] (by decide +kernel) (by decide +kernel)
set_option maxRecDepth 20000 in
theorem gX4_see_X3_forgetSightings : GoodIn wsX4_see (wsV RX4 227 RX3 yX3_forgetSightings wsX3_forgetSightings) := goodIn_app (goodIn_of _ (by decide +kernel)) ggX4_see_X3_forgetSightings
theorem dX4_see_0 : decode cX4_see 0 = .ok (.iload_n 1, 1) := by decide +kernel
theorem dX4_see_1 : decode cX4_see 1 = .ok (.invokestatic 207, 3) := by decide +kernel
theorem dX4_see_4 : decode cX4_see 4 = .ok (.aload_n 0, 1) := by decide +kernel
theorem dX4_see_5 : decode cX4_see 5 = .ok (.iload_n 2, 1) := by decide +kernel
theorem dX4_see_6 : decode cX4_see 6 = .ok (.invokevirtual 96, 3) := by decide +kernel
theorem dX4_see_9 : decode cX4_see 9 = .ok (.astore 5, 2) := by decide +kernel
theorem dX4_see_11 : decode cX4_see 11 = .ok (.iload_n 3, 1) := by decide +kernel
theorem dX4_see_12 : decode cX4_see 12 = .ok (.invokestatic 100, 3) := by decide +kernel
theorem dX4_see_15 : decode cX4_see 15 = .ok (.ifCond .eq 14, 3) := by decide +kernel
theorem dX4_see_18 : decode cX4_see 18 = .ok (.iload 4, 2) := by decide +kernel
theorem dX4_see_20 : decode cX4_see 20 = .ok (.iconst 0, 1) := by decide +kernel
theorem dX4_see_21 : decode cX4_see 21 = .ok (.bipush 99, 2) := by decide +kernel
theorem dX4_see_23 : decode cX4_see 23 = .ok (.invokestatic 50, 3) := by decide +kernel
theorem dX4_see_26 : decode cX4_see 26 = .ok (.ifCond .ne 13, 3) := by decide +kernel
theorem dX4_see_29 : decode cX4_see 29 = .ok (.new 58, 3) := by decide +kernel
theorem dX4_see_32 : decode cX4_see 32 = .ok (.dup, 1) := by decide +kernel
theorem dX4_see_33 : decode cX4_see 33 = .ok (.ldc 214, 2) := by decide +kernel
theorem dX4_see_35 : decode cX4_see 35 = .ok (.invokespecial 62, 3) := by decide +kernel
theorem dX4_see_38 : decode cX4_see 38 = .ok (.athrow, 1) := by decide +kernel
theorem dX4_see_39 : decode cX4_see 39 = .ok (.aload 5, 2) := by decide +kernel
theorem dX4_see_41 : decode cX4_see 41 = .ok (.aload_n 0, 1) := by decide +kernel
theorem dX4_see_42 : decode cX4_see 42 = .ok (.getfield 20, 3) := by decide +kernel
theorem dX4_see_45 : decode cX4_see 45 = .ok (.iload_n 1, 1) := by decide +kernel
theorem dX4_see_46 : decode cX4_see 46 = .ok (.iaload, 1) := by decide +kernel
theorem dX4_see_47 : decode cX4_see 47 = .ok (.aload_n 0, 1) := by decide +kernel
theorem dX4_see_48 : decode cX4_see 48 = .ok (.getfield 23, 3) := by decide +kernel
theorem dX4_see_51 : decode cX4_see 51 = .ok (.iload_n 1, 1) := by decide +kernel
theorem dX4_see_52 : decode cX4_see 52 = .ok (.iaload, 1) := by decide +kernel
theorem dX4_see_53 : decode cX4_see 53 = .ok (.invokevirtual 216, 3) := by decide +kernel
theorem dX4_see_56 : decode cX4_see 56 = .ok (.ifCond .ne 10, 3) := by decide +kernel
theorem dX4_see_59 : decode cX4_see 59 = .ok (.aload_n 0, 1) := by decide +kernel
theorem dX4_see_60 : decode cX4_see 60 = .ok (.invokevirtual 69, 3) := by decide +kernel
theorem dX4_see_63 : decode cX4_see 63 = .ok (.ifCond .eq 13, 3) := by decide +kernel
theorem dX4_see_66 : decode cX4_see 66 = .ok (.new 73, 3) := by decide +kernel
theorem dX4_see_69 : decode cX4_see 69 = .ok (.dup, 1) := by decide +kernel
theorem dX4_see_70 : decode cX4_see 70 = .ok (.ldc 219, 2) := by decide +kernel
theorem dX4_see_72 : decode cX4_see 72 = .ok (.invokespecial 77, 3) := by decide +kernel
theorem dX4_see_75 : decode cX4_see 75 = .ok (.athrow, 1) := by decide +kernel
theorem dX4_see_76 : decode cX4_see 76 = .ok (.aload 5, 2) := by decide +kernel
theorem dX4_see_78 : decode cX4_see 78 = .ok (.iload_n 1, 1) := by decide +kernel
theorem dX4_see_79 : decode cX4_see 79 = .ok (.iload_n 3, 1) := by decide +kernel
theorem dX4_see_80 : decode cX4_see 80 = .ok (.iload 4, 2) := by decide +kernel
theorem dX4_see_82 : decode cX4_see 82 = .ok (.invokevirtual 221, 3) := by decide +kernel
theorem dX4_see_85 : decode cX4_see 85 = .ok (.aload 5, 2) := by decide +kernel
theorem dX4_see_87 : decode cX4_see 87 = .ok (.invokevirtual 108, 3) := by decide +kernel
theorem dX4_see_90 : decode cX4_see 90 = .ok (.iload_n 3, 1) := by decide +kernel
theorem dX4_see_91 : decode cX4_see 91 = .ok (.if_icmp .eq 12, 3) := by decide +kernel
theorem dX4_see_94 : decode cX4_see 94 = .ok (.aload 5, 2) := by decide +kernel
theorem dX4_see_96 : decode cX4_see 96 = .ok (.iload_n 3, 1) := by decide +kernel
theorem dX4_see_97 : decode cX4_see 97 = .ok (.invokevirtual 224, 3) := by decide +kernel
theorem dX4_see_100 : decode cX4_see 100 = .ok (.ifCond .ne 5, 3) := by decide +kernel
theorem dX4_see_103 : decode cX4_see 103 = .ok (.iconst 0, 1) := by decide +kernel
theorem dX4_see_104 : decode cX4_see 104 = .ok (.ireturn, 1) := by decide +kernel
theorem dX4_see_105 : decode cX4_see 105 = .ok (.aload_n 0, 1) := by decide +kernel
theorem dX4_see_106 : decode cX4_see 106 = .ok (.aload 5, 2) := by decide +kernel
theorem dX4_see_108 : decode cX4_see 108 = .ok (.new 80, 3) := by decide +kernel
theorem dX4_see_111 : decode cX4_see 111 = .ok (.dup, 1) := by decide +kernel
theorem dX4_see_112 : decode cX4_see 112 = .ok (.aload 5, 2) := by decide +kernel
theorem dX4_see_114 : decode cX4_see 114 = .ok (.invokevirtual 105, 3) := by decide +kernel
theorem dX4_see_117 : decode cX4_see 117 = .ok (.iload_n 3, 1) := by decide +kernel
theorem dX4_see_118 : decode cX4_see 118 = .ok (.iconst (-1), 1) := by decide +kernel
theorem dX4_see_119 : decode cX4_see 119 = .ok (.invokespecial 82, 3) := by decide +kernel
theorem dX4_see_122 : decode cX4_see 122 = .ok (.invokevirtual 120, 3) := by decide +kernel
theorem dX4_see_125 : decode cX4_see 125 = .ok (.aload 5, 2) := by decide +kernel
theorem dX4_see_127 : decode cX4_see 127 = .ok (.invokevirtual 227, 3) := by decide +kernel
theorem dX4_see_130 : decode cX4_see 130 = .ok (.iconst 1, 1) := by decide +kernel
theorem dX4_see_131 : decode cX4_see 131 = .ok (.ireturn, 1) := by decide +kernel
set_option maxRecDepth 20000 in
theorem ggX4_sightings_X4_wayAt : GoodIn wsX4_sightings wsX4_wayAt := goodIn_ca (goodIn_r _ [5, 6, 7, 8, 9, 10, 11, 12, 13, 14, 15, 16, 17, 18, 19, 20, 21, 22, 23, 24, 25, 26, 27, 28, 29, 30, 31, 32, 39, 40, 41, 42, 43, 44, 45, 46, 47] (by decide +kernel) (by decide +kernel)) (goodIn_sub (fun _ h => List.mem_cons_of_mem _ (List.mem_append_right _ h)) (by decide +kernel))
set_option maxRecDepth 20000 in
theorem gX4_sightings_X4_wayAt : GoodIn wsX4_sightings (wsV RX4 96 RX4 yX4_wayAt wsX4_wayAt) := goodIn_app (goodIn_of _ (by decide +kernel)) ggX4_sightings_X4_wayAt
set_option maxRecDepth 20000 in
theorem ggX4_sightings_X3_countSightings : GoodIn wsX4_sightings wsX3_countSightings := goodIn_r _ [37, 38, 48, 49, 50, 51, 52, 53, 54, 55] (by decide +kernel) (by decide +kernel)
set_option maxRecDepth 20000 in
theorem gX4_sightings_X3_countSightings : GoodIn wsX4_sightings (wsV RX4 230 RX3 yX3_countSightings wsX3_countSightings) := goodIn_app (goodIn_of _ (by decide +kernel)) ggX4_sightings_X3_countSightings
theorem dX4_sightings_0 : decode cX4_sightings 0 = .ok (.aload_n 0, 1) := by decide +kernel
theorem dX4_sightings_1 : decode cX4_sightings 1 = .ok (.iload_n 1, 1) := by decide +kernel
theorem dX4_sightings_2 : decode cX4_sightings 2 = .ok (.invokevirtual 96, 3) := by decide +kernel
theorem dX4_sightings_5 : decode cX4_sightings 5 = .ok (.invokevirtual 230, 3) := by decide +kernel
theorem dX4_sightings_8 : decode cX4_sightings 8 = .ok (.ireturn, 1) := by decide +kernel
set_option maxRecDepth 20000 in
theorem ggX4_dear_X4_wayAt : GoodIn wsX4_dear wsX4_wayAt := goodIn_ca (goodIn_r _ [5, 6, 7, 8, 9, 10, 11, 12, 13, 14, 15, 16, 17, 18, 19, 20, 21, 22, 23, 24, 25, 26, 27, 28, 29, 30, 31, 32, 51, 52, 53, 54, 55, 56, 57, 58, 59] (by decide +kernel) (by decide +kernel)) (goodIn_sub (fun _ h => List.mem_cons_of_mem _ (List.mem_append_right _ h)) (by decide +kernel))
set_option maxRecDepth 20000 in
theorem gX4_dear_X4_wayAt : GoodIn wsX4_dear (wsV RX4 96 RX4 yX4_wayAt wsX4_wayAt) := goodIn_app (goodIn_of _ (by decide +kernel)) ggX4_dear_X4_wayAt
set_option maxRecDepth 20000 in
theorem ggX4_dear_X3_dearness : GoodIn wsX4_dear wsX3_dearness := goodIn_r _ [37, 38, 39, 40, 41, 36, 42, 43, 44, 45, 46, 47, 48, 49, 50, 60, 61, 62, 63, 64, 65, 66, 67, 68, 69, 70, 71, 72, 73, 74] (by decide +kernel) (by decide +kernel)
set_option maxRecDepth 20000 in
theorem gX4_dear_X3_dearness : GoodIn wsX4_dear (wsV RX4 233 RX3 yX3_dearness wsX3_dearness) := goodIn_app (goodIn_of _ (by decide +kernel)) ggX4_dear_X3_dearness
theorem dX4_dear_0 : decode cX4_dear 0 = .ok (.aload_n 0, 1) := by decide +kernel
theorem dX4_dear_1 : decode cX4_dear 1 = .ok (.iload_n 1, 1) := by decide +kernel
theorem dX4_dear_2 : decode cX4_dear 2 = .ok (.invokevirtual 96, 3) := by decide +kernel
theorem dX4_dear_5 : decode cX4_dear 5 = .ok (.invokevirtual 233, 3) := by decide +kernel
theorem dX4_dear_8 : decode cX4_dear 8 = .ok (.ireturn, 1) := by decide +kernel
set_option maxRecDepth 20000 in
theorem ggX4_target_X4_requireCar : GoodIn wsX4_target wsX4_requireCar := goodIn_ca (goodIn_r _ [6, 7, 8, 9, 10, 5, 11] (by decide +kernel) (by decide +kernel)) (goodIn_sub (fun _ h => List.mem_cons_of_mem _ (List.mem_append_right _ h)) (by decide +kernel))
set_option maxRecDepth 20000 in
theorem gX4_target_X4_requireCar : GoodIn wsX4_target (va_wsS RX4 207 yX4_requireCar wsX4_requireCar) := goodIn_app (goodIn_of _ (by decide +kernel)) ggX4_target_X4_requireCar
set_option maxRecDepth 20000 in
theorem ggX4_target_X4_targetFrom : GoodIn wsX4_target wsX4_targetFrom := goodIn_r _ [15, 16, 17, 18, 19, 20, 21, 22, 23, 24, 25, 26, 27, 28, 29, 30, 31, 32, 33, 34, 35, 36, 37, 38, 39, 40, 41, 42, 43, 44, 45, 46, 47, 48, 49, 50, 51, 52, 53, 54, 55, 56, 57, 58, 59, 60, 61, 62, 63, 64, 65, 66, 67, 68, 69, 70, 71, 72, 73, 5, 74, 75, 76, 77, 78, 79, 80, 81, 82, 83, 84, 85, 86, 87, 88, 89, 90, 91, 92, 93, 94, 95, 96, 97, 98, 99, 100, 101, 102, 103, 104, 105, 106, 107] (by decide +kernel) (by decide +kernel)
set_option maxRecDepth 20000 in
theorem gX4_target_X4_targetFrom : GoodIn wsX4_target (wsV RX4 236 RX4 yX4_targetFrom wsX4_targetFrom) := goodIn_app (goodIn_of _ (by decide +kernel)) ggX4_target_X4_targetFrom
theorem dX4_target_0 : decode cX4_target 0 = .ok (.iload_n 1, 1) := by decide +kernel
theorem dX4_target_1 : decode cX4_target 1 = .ok (.invokestatic 207, 3) := by decide +kernel
theorem dX4_target_4 : decode cX4_target 4 = .ok (.aload_n 0, 1) := by decide +kernel
theorem dX4_target_5 : decode cX4_target 5 = .ok (.aload_n 0, 1) := by decide +kernel
theorem dX4_target_6 : decode cX4_target 6 = .ok (.getfield 20, 3) := by decide +kernel
theorem dX4_target_9 : decode cX4_target 9 = .ok (.iload_n 1, 1) := by decide +kernel
theorem dX4_target_10 : decode cX4_target 10 = .ok (.iaload, 1) := by decide +kernel
theorem dX4_target_11 : decode cX4_target 11 = .ok (.aload_n 0, 1) := by decide +kernel
theorem dX4_target_12 : decode cX4_target 12 = .ok (.getfield 23, 3) := by decide +kernel
theorem dX4_target_15 : decode cX4_target 15 = .ok (.iload_n 1, 1) := by decide +kernel
theorem dX4_target_16 : decode cX4_target 16 = .ok (.iaload, 1) := by decide +kernel
theorem dX4_target_17 : decode cX4_target 17 = .ok (.invokevirtual 236, 3) := by decide +kernel
theorem dX4_target_20 : decode cX4_target 20 = .ok (.ireturn, 1) := by decide +kernel
set_option maxRecDepth 20000 in
theorem ggX4_send_X4_requireCar : GoodIn wsX4_send wsX4_requireCar := goodIn_ca (goodIn_r _ [12, 13, 14, 15, 16, 11, 17] (by decide +kernel) (by decide +kernel)) (goodIn_sub (fun _ h => List.mem_cons_of_mem _ (List.mem_append_right _ h)) (by decide +kernel))
set_option maxRecDepth 20000 in
theorem gX4_send_X4_requireCar : GoodIn wsX4_send (va_wsS RX4 207 yX4_requireCar wsX4_requireCar) := goodIn_app (goodIn_of _ (by decide +kernel)) ggX4_send_X4_requireCar
set_option maxRecDepth 20000 in
theorem ggX4_send_X4_targetFrom : GoodIn wsX4_send wsX4_targetFrom := goodIn_r _ [21, 22, 23, 24, 25, 26, 27, 28, 29, 30, 31, 32, 33, 34, 35, 36, 37, 38, 39, 40, 41, 42, 43, 44, 45, 46, 47, 48, 49, 50, 51, 52, 53, 54, 55, 56, 57, 58, 59, 60, 61, 62, 63, 64, 65, 66, 67, 68, 69, 70, 71, 72, 73, 74, 75, 76, 77, 78, 79, 11, 80, 81, 82, 83, 84, 85, 86, 87, 88, 89, 96, 97, 98, 99, 100, 101, 110, 111, 112, 102, 103, 104, 105, 106, 107, 108, 109, 113, 114, 115, 116, 117, 118, 119] (by decide +kernel) (by decide +kernel)
set_option maxRecDepth 20000 in
theorem gX4_send_X4_targetFrom : GoodIn wsX4_send (wsV RX4 236 RX4 yX4_targetFrom wsX4_targetFrom) := goodIn_app (goodIn_of _ (by decide +kernel)) ggX4_send_X4_targetFrom
set_option maxRecDepth 20000 in
theorem ggX4_send_X4_wayAt : GoodIn wsX4_send wsX4_wayAt := goodIn_ca (goodIn_r _ [93, 13, 14, 22, 23, 24, 25, 26, 27, 28, 29, 30, 31, 32, 33, 34, 35, 36, 37, 38, 39, 40, 41, 42, 43, 44, 45, 46, 96, 97, 98, 99, 100, 101, 110, 111, 112] (by decide +kernel) (by decide +kernel)) (goodIn_sub (fun _ h => List.mem_cons_of_mem _ (List.mem_append_right _ h)) (by decide +kernel))
set_option maxRecDepth 20000 in
theorem gX4_send_X4_wayAt : GoodIn wsX4_send (wsV RX4 96 RX4 yX4_wayAt wsX4_wayAt) := goodIn_app (goodIn_of _ (by decide +kernel)) ggX4_send_X4_wayAt
set_option maxRecDepth 20000 in
theorem ggX4_send_X3_distanceFromBegin : GoodIn wsX4_send wsX3_distanceFromBegin := goodIn_r _ [76, 77, 78, 79, 11, 80, 81, 82, 71, 83, 102, 103, 104, 105, 106, 107, 108, 109] (by decide +kernel) (by decide +kernel)
set_option maxRecDepth 20000 in
theorem gX4_send_X3_distanceFromBegin : GoodIn wsX4_send (wsV RX4 241 RX3 yX3_distanceFromBegin wsX3_distanceFromBegin) := goodIn_app (goodIn_of _ (by decide +kernel)) ggX4_send_X3_distanceFromBegin
set_option maxRecDepth 20000 in
theorem ggX4_send_X3_distanceFromEnd : GoodIn wsX4_send wsX3_distanceFromEnd := goodIn_r _ [87, 88, 89, 79, 11, 80, 81, 82, 71, 83, 102, 103, 104, 105, 106, 107, 108, 109] (by decide +kernel) (by decide +kernel)
set_option maxRecDepth 20000 in
theorem gX4_send_X3_distanceFromEnd : GoodIn wsX4_send (wsV RX4 244 RX3 yX3_distanceFromEnd wsX3_distanceFromEnd) := goodIn_app (goodIn_of _ (by decide +kernel)) ggX4_send_X3_distanceFromEnd
theorem dX4_send_0 : decode cX4_send 0 = .ok (.iload_n 1, 1) := by decide +kernel
theorem dX4_send_1 : decode cX4_send 1 = .ok (.invokestatic 207, 3) := by decide +kernel
theorem dX4_send_4 : decode cX4_send 4 = .ok (.aload_n 0, 1) := by decide +kernel
theorem dX4_send_5 : decode cX4_send 5 = .ok (.aload_n 0, 1) := by decide +kernel
theorem dX4_send_6 : decode cX4_send 6 = .ok (.getfield 20, 3) := by decide +kernel
theorem dX4_send_9 : decode cX4_send 9 = .ok (.iload_n 1, 1) := by decide +kernel
theorem dX4_send_10 : decode cX4_send 10 = .ok (.iaload, 1) := by decide +kernel
theorem dX4_send_11 : decode cX4_send 11 = .ok (.aload_n 0, 1) := by decide +kernel
theorem dX4_send_12 : decode cX4_send 12 = .ok (.getfield 23, 3) := by decide +kernel
theorem dX4_send_15 : decode cX4_send 15 = .ok (.iload_n 1, 1) := by decide +kernel
theorem dX4_send_16 : decode cX4_send 16 = .ok (.iaload, 1) := by decide +kernel
theorem dX4_send_17 : decode cX4_send 17 = .ok (.invokevirtual 236, 3) := by decide +kernel
theorem dX4_send_20 : decode cX4_send 20 = .ok (.istore_n 2, 1) := by decide +kernel
theorem dX4_send_21 : decode cX4_send 21 = .ok (.iload_n 2, 1) := by decide +kernel
theorem dX4_send_22 : decode cX4_send 22 = .ok (.iconst (-1), 1) := by decide +kernel
theorem dX4_send_23 : decode cX4_send 23 = .ok (.if_icmp .ne 13, 3) := by decide +kernel
theorem dX4_send_26 : decode cX4_send 26 = .ok (.new 73, 3) := by decide +kernel
theorem dX4_send_29 : decode cX4_send 29 = .ok (.dup, 1) := by decide +kernel
theorem dX4_send_30 : decode cX4_send 30 = .ok (.ldc 239, 2) := by decide +kernel
theorem dX4_send_32 : decode cX4_send 32 = .ok (.invokespecial 77, 3) := by decide +kernel
theorem dX4_send_35 : decode cX4_send 35 = .ok (.athrow, 1) := by decide +kernel
theorem dX4_send_36 : decode cX4_send 36 = .ok (.aload_n 0, 1) := by decide +kernel
theorem dX4_send_37 : decode cX4_send 37 = .ok (.iload_n 2, 1) := by decide +kernel
theorem dX4_send_38 : decode cX4_send 38 = .ok (.invokevirtual 96, 3) := by decide +kernel
theorem dX4_send_41 : decode cX4_send 41 = .ok (.astore_n 3, 1) := by decide +kernel
theorem dX4_send_42 : decode cX4_send 42 = .ok (.aload_n 3, 1) := by decide +kernel
theorem dX4_send_43 : decode cX4_send 43 = .ok (.aload_n 0, 1) := by decide +kernel
theorem dX4_send_44 : decode cX4_send 44 = .ok (.getfield 20, 3) := by decide +kernel
theorem dX4_send_47 : decode cX4_send 47 = .ok (.iload_n 1, 1) := by decide +kernel
theorem dX4_send_48 : decode cX4_send 48 = .ok (.iaload, 1) := by decide +kernel
theorem dX4_send_49 : decode cX4_send 49 = .ok (.aload_n 0, 1) := by decide +kernel
theorem dX4_send_50 : decode cX4_send 50 = .ok (.getfield 23, 3) := by decide +kernel
theorem dX4_send_53 : decode cX4_send 53 = .ok (.iload_n 1, 1) := by decide +kernel
theorem dX4_send_54 : decode cX4_send 54 = .ok (.iaload, 1) := by decide +kernel
theorem dX4_send_55 : decode cX4_send 55 = .ok (.invokevirtual 241, 3) := by decide +kernel
theorem dX4_send_58 : decode cX4_send 58 = .ok (.istore 4, 2) := by decide +kernel
theorem dX4_send_60 : decode cX4_send 60 = .ok (.aload_n 3, 1) := by decide +kernel
theorem dX4_send_61 : decode cX4_send 61 = .ok (.aload_n 0, 1) := by decide +kernel
theorem dX4_send_62 : decode cX4_send 62 = .ok (.getfield 20, 3) := by decide +kernel
theorem dX4_send_65 : decode cX4_send 65 = .ok (.iload_n 1, 1) := by decide +kernel
theorem dX4_send_66 : decode cX4_send 66 = .ok (.iaload, 1) := by decide +kernel
theorem dX4_send_67 : decode cX4_send 67 = .ok (.aload_n 0, 1) := by decide +kernel
theorem dX4_send_68 : decode cX4_send 68 = .ok (.getfield 23, 3) := by decide +kernel
theorem dX4_send_71 : decode cX4_send 71 = .ok (.iload_n 1, 1) := by decide +kernel
theorem dX4_send_72 : decode cX4_send 72 = .ok (.iaload, 1) := by decide +kernel
theorem dX4_send_73 : decode cX4_send 73 = .ok (.invokevirtual 244, 3) := by decide +kernel
theorem dX4_send_76 : decode cX4_send 76 = .ok (.istore 5, 2) := by decide +kernel
theorem dX4_send_78 : decode cX4_send 78 = .ok (.iload 5, 2) := by decide +kernel
theorem dX4_send_80 : decode cX4_send 80 = .ok (.iload 4, 2) := by decide +kernel
theorem dX4_send_82 : decode cX4_send 82 = .ok (.if_icmp .ge 7, 3) := by decide +kernel
theorem dX4_send_85 : decode cX4_send 85 = .ok (.iconst 1, 1) := by decide +kernel
theorem dX4_send_86 : decode cX4_send 86 = .ok (.goto 4, 3) := by decide +kernel
theorem dX4_send_89 : decode cX4_send 89 = .ok (.iconst 0, 1) := by decide +kernel
theorem dX4_send_90 : decode cX4_send 90 = .ok (.istore 6, 2) := by decide +kernel
theorem dX4_send_92 : decode cX4_send 92 = .ok (.aload_n 0, 1) := by decide +kernel
theorem dX4_send_93 : decode cX4_send 93 = .ok (.getfield 20, 3) := by decide +kernel
theorem dX4_send_96 : decode cX4_send 96 = .ok (.iload_n 1, 1) := by decide +kernel
theorem dX4_send_97 : decode cX4_send 97 = .ok (.iload 6, 2) := by decide +kernel
theorem dX4_send_99 : decode cX4_send 99 = .ok (.ifCond .eq 10, 3) := by decide +kernel
theorem dX4_send_102 : decode cX4_send 102 = .ok (.aload_n 3, 1) := by decide +kernel
theorem dX4_send_103 : decode cX4_send 103 = .ok (.getfield 247, 3) := by decide +kernel
theorem dX4_send_106 : decode cX4_send 106 = .ok (.goto 7, 3) := by decide +kernel
theorem dX4_send_109 : decode cX4_send 109 = .ok (.aload_n 3, 1) := by decide +kernel
theorem dX4_send_110 : decode cX4_send 110 = .ok (.getfield 250, 3) := by decide +kernel
theorem dX4_send_113 : decode cX4_send 113 = .ok (.iastore, 1) := by decide +kernel
theorem dX4_send_114 : decode cX4_send 114 = .ok (.aload_n 0, 1) := by decide +kernel
theorem dX4_send_115 : decode cX4_send 115 = .ok (.getfield 23, 3) := by decide +kernel
theorem dX4_send_118 : decode cX4_send 118 = .ok (.iload_n 1, 1) := by decide +kernel
theorem dX4_send_119 : decode cX4_send 119 = .ok (.iload 6, 2) := by decide +kernel
theorem dX4_send_121 : decode cX4_send 121 = .ok (.ifCond .eq 10, 3) := by decide +kernel
theorem dX4_send_124 : decode cX4_send 124 = .ok (.aload_n 3, 1) := by decide +kernel
theorem dX4_send_125 : decode cX4_send 125 = .ok (.getfield 253, 3) := by decide +kernel
theorem dX4_send_128 : decode cX4_send 128 = .ok (.goto 7, 3) := by decide +kernel
theorem dX4_send_131 : decode cX4_send 131 = .ok (.aload_n 3, 1) := by decide +kernel
theorem dX4_send_132 : decode cX4_send 132 = .ok (.getfield 256, 3) := by decide +kernel
theorem dX4_send_135 : decode cX4_send 135 = .ok (.iastore, 1) := by decide +kernel
theorem dX4_send_136 : decode cX4_send 136 = .ok (.iload 6, 2) := by decide +kernel
theorem dX4_send_138 : decode cX4_send 138 = .ok (.ifCond .eq 8, 3) := by decide +kernel
theorem dX4_send_141 : decode cX4_send 141 = .ok (.iload 5, 2) := by decide +kernel
theorem dX4_send_143 : decode cX4_send 143 = .ok (.goto 5, 3) := by decide +kernel
theorem dX4_send_146 : decode cX4_send 146 = .ok (.iload 4, 2) := by decide +kernel
theorem dX4_send_148 : decode cX4_send 148 = .ok (.ireturn, 1) := by decide +kernel
set_option maxRecDepth 20000 in
theorem ggX4_carAt_X4_requireCar : GoodIn wsX4_carAt wsX4_requireCar := goodIn_ca (goodIn_r _ [6, 7, 8, 9, 10, 5, 11] (by decide +kernel) (by decide +kernel)) (goodIn_sub (fun _ h => List.mem_cons_of_mem _ (List.mem_append_right _ h)) (by decide +kernel))
set_option maxRecDepth 20000 in
theorem gX4_carAt_X4_requireCar : GoodIn wsX4_carAt (va_wsS RX4 207 yX4_requireCar wsX4_requireCar) := goodIn_app (goodIn_of _ (by decide +kernel)) ggX4_carAt_X4_requireCar
theorem dX4_carAt_0 : decode cX4_carAt 0 = .ok (.iload_n 1, 1) := by decide +kernel
theorem dX4_carAt_1 : decode cX4_carAt 1 = .ok (.invokestatic 207, 3) := by decide +kernel
theorem dX4_carAt_4 : decode cX4_carAt 4 = .ok (.bipush 100, 2) := by decide +kernel
theorem dX4_carAt_6 : decode cX4_carAt 6 = .ok (.aload_n 0, 1) := by decide +kernel
theorem dX4_carAt_7 : decode cX4_carAt 7 = .ok (.getfield 20, 3) := by decide +kernel
theorem dX4_carAt_10 : decode cX4_carAt 10 = .ok (.iload_n 1, 1) := by decide +kernel
theorem dX4_carAt_11 : decode cX4_carAt 11 = .ok (.iaload, 1) := by decide +kernel
theorem dX4_carAt_12 : decode cX4_carAt 12 = .ok (.imul, 1) := by decide +kernel
theorem dX4_carAt_13 : decode cX4_carAt 13 = .ok (.aload_n 0, 1) := by decide +kernel
theorem dX4_carAt_14 : decode cX4_carAt 14 = .ok (.getfield 23, 3) := by decide +kernel
theorem dX4_carAt_17 : decode cX4_carAt 17 = .ok (.iload_n 1, 1) := by decide +kernel
theorem dX4_carAt_18 : decode cX4_carAt 18 = .ok (.iaload, 1) := by decide +kernel
theorem dX4_carAt_19 : decode cX4_carAt 19 = .ok (.iadd, 1) := by decide +kernel
theorem dX4_carAt_20 : decode cX4_carAt 20 = .ok (.ireturn, 1) := by decide +kernel
theorem dX4_isIn_0 : decode cX4_isIn 0 = .ok (.iload_n 0, 1) := by decide +kernel
theorem dX4_isIn_1 : decode cX4_isIn 1 = .ok (.iload_n 1, 1) := by decide +kernel
theorem dX4_isIn_2 : decode cX4_isIn 2 = .ok (.if_icmp .lt 12, 3) := by decide +kernel
theorem dX4_isIn_5 : decode cX4_isIn 5 = .ok (.iload_n 0, 1) := by decide +kernel
theorem dX4_isIn_6 : decode cX4_isIn 6 = .ok (.iload_n 2, 1) := by decide +kernel
theorem dX4_isIn_7 : decode cX4_isIn 7 = .ok (.if_icmp .gt 7, 3) := by decide +kernel
theorem dX4_isIn_10 : decode cX4_isIn 10 = .ok (.iconst 1, 1) := by decide +kernel
theorem dX4_isIn_11 : decode cX4_isIn 11 = .ok (.goto 4, 3) := by decide +kernel
theorem dX4_isIn_14 : decode cX4_isIn 14 = .ok (.iconst 0, 1) := by decide +kernel
theorem dX4_isIn_15 : decode cX4_isIn 15 = .ok (.ireturn, 1) := by decide +kernel
set_option maxRecDepth 20000 in
theorem ggX4_isKind_X4_isIn : GoodIn wsX4_isKind wsX4_isIn := goodIn_r _ [4] (by decide +kernel) (by decide +kernel)
set_option maxRecDepth 20000 in
theorem gX4_isKind_X4_isIn : GoodIn wsX4_isKind (va_wsS RX4 50 yX4_isIn wsX4_isIn) := goodIn_app (goodIn_of _ (by decide +kernel)) ggX4_isKind_X4_isIn
theorem dX4_isKind_0 : decode cX4_isKind 0 = .ok (.iload_n 0, 1) := by decide +kernel
theorem dX4_isKind_1 : decode cX4_isKind 1 = .ok (.iconst 0, 1) := by decide +kernel
theorem dX4_isKind_2 : decode cX4_isKind 2 = .ok (.iconst 3, 1) := by decide +kernel
theorem dX4_isKind_3 : decode cX4_isKind 3 = .ok (.invokestatic 50, 3) := by decide +kernel
theorem dX4_isKind_6 : decode cX4_isKind 6 = .ok (.ireturn, 1) := by decide +kernel
set_option maxRecDepth 20000 in
theorem ggX4_isDirection_X4_isIn : GoodIn wsX4_isDirection wsX4_isIn := goodIn_r _ [4] (by decide +kernel) (by decide +kernel)
set_option maxRecDepth 20000 in
theorem gX4_isDirection_X4_isIn : GoodIn wsX4_isDirection (va_wsS RX4 50 yX4_isIn wsX4_isIn) := goodIn_app (goodIn_of _ (by decide +kernel)) ggX4_isDirection_X4_isIn
theorem dX4_isDirection_0 : decode cX4_isDirection 0 = .ok (.iload_n 0, 1) := by decide +kernel
theorem dX4_isDirection_1 : decode cX4_isDirection 1 = .ok (.iconst 0, 1) := by decide +kernel
theorem dX4_isDirection_2 : decode cX4_isDirection 2 = .ok (.iconst 2, 1) := by decide +kernel
theorem dX4_isDirection_3 : decode cX4_isDirection 3 = .ok (.invokestatic 50, 3) := by decide +kernel
theorem dX4_isDirection_6 : decode cX4_isDirection 6 = .ok (.ireturn, 1) := by decide +kernel
set_option maxRecDepth 20000 in
theorem ggX4_requireEditor_X4_isIn : GoodIn wsX4_requireEditor wsX4_isIn := goodIn_r _ [6] (by decide +kernel) (by decide +kernel)
set_option maxRecDepth 20000 in
theorem gX4_requireEditor_X4_isIn : GoodIn wsX4_requireEditor (va_wsS RX4 50 yX4_isIn wsX4_isIn) := goodIn_app (goodIn_of _ (by decide +kernel)) ggX4_requireEditor_X4_isIn
theorem dX4_requireEditor_0 : decode cX4_requireEditor 0 = .ok (.iload_n 0, 1) := by decide +kernel
theorem dX4_requireEditor_1 : decode cX4_requireEditor 1 = .ok (.iconst 0, 1) := by decide +kernel
theorem dX4_requireEditor_2 : decode cX4_requireEditor 2 = .ok (.iconst 5, 1) := by decide +kernel
theorem dX4_requireEditor_3 : decode cX4_requireEditor 3 = .ok (.invokestatic 50, 3) := by decide +kernel
theorem dX4_requireEditor_6 : decode cX4_requireEditor 6 = .ok (.ifCond .ne 14, 3) := by decide +kernel
theorem dX4_requireEditor_9 : decode cX4_requireEditor 9 = .ok (.new 259, 3) := by decide +kernel
theorem dX4_requireEditor_12 : decode cX4_requireEditor 12 = .ok (.dup, 1) := by decide +kernel
theorem dX4_requireEditor_13 : decode cX4_requireEditor 13 = .ok (.ldc_w 261, 3) := by decide +kernel
theorem dX4_requireEditor_16 : decode cX4_requireEditor 16 = .ok (.invokespecial 263, 3) := by decide +kernel
theorem dX4_requireEditor_19 : decode cX4_requireEditor 19 = .ok (.athrow, 1) := by decide +kernel
theorem dX4_requireEditor_20 : decode cX4_requireEditor 20 = .ok (.return_, 1) := by decide +kernel
set_option maxRecDepth 20000 in
theorem ggX4_requireCrossing_X4_isIn : GoodIn wsX4_requireCrossing wsX4_isIn := goodIn_r _ [6] (by decide +kernel) (by decide +kernel)
set_option maxRecDepth 20000 in
theorem gX4_requireCrossing_X4_isIn : GoodIn wsX4_requireCrossing (va_wsS RX4 50 yX4_isIn wsX4_isIn) := goodIn_app (goodIn_of _ (by decide +kernel)) ggX4_requireCrossing_X4_isIn
theorem dX4_requireCrossing_0 : decode cX4_requireCrossing 0 = .ok (.iload_n 0, 1) := by decide +kernel
theorem dX4_requireCrossing_1 : decode cX4_requireCrossing 1 = .ok (.iconst 0, 1) := by decide +kernel
theorem dX4_requireCrossing_2 : decode cX4_requireCrossing 2 = .ok (.bipush 16, 2) := by decide +kernel
theorem dX4_requireCrossing_4 : decode cX4_requireCrossing 4 = .ok (.invokestatic 50, 3) := by decide +kernel
theorem dX4_requireCrossing_7 : decode cX4_requireCrossing 7 = .ok (.ifCond .eq 13, 3) := by decide +kernel
theorem dX4_requireCrossing_10 : decode cX4_requireCrossing 10 = .ok (.iload_n 1, 1) := by decide +kernel
theorem dX4_requireCrossing_11 : decode cX4_requireCrossing 11 = .ok (.iconst 0, 1) := by decide +kernel
theorem dX4_requireCrossing_12 : decode cX4_requireCrossing 12 = .ok (.bipush 16, 2) := by decide +kernel
theorem dX4_requireCrossing_14 : decode cX4_requireCrossing 14 = .ok (.invokestatic 50, 3) := by decide +kernel
theorem dX4_requireCrossing_17 : decode cX4_requireCrossing 17 = .ok (.ifCond .ne 14, 3) := by decide +kernel
theorem dX4_requireCrossing_20 : decode cX4_requireCrossing 20 = .ok (.new 259, 3) := by decide +kernel
theorem dX4_requireCrossing_23 : decode cX4_requireCrossing 23 = .ok (.dup, 1) := by decide +kernel
theorem dX4_requireCrossing_24 : decode cX4_requireCrossing 24 = .ok (.ldc_w 264, 3) := by decide +kernel
theorem dX4_requireCrossing_27 : decode cX4_requireCrossing 27 = .ok (.invokespecial 263, 3) := by decide +kernel
theorem dX4_requireCrossing_30 : decode cX4_requireCrossing 30 = .ok (.athrow, 1) := by decide +kernel
theorem dX4_requireCrossing_31 : decode cX4_requireCrossing 31 = .ok (.return_, 1) := by decide +kernel
set_option maxRecDepth 20000 in
theorem ggX4_requireCar_X4_isIn : GoodIn wsX4_requireCar wsX4_isIn := goodIn_r _ [6] (by decide +kernel) (by decide +kernel)
set_option maxRecDepth 20000 in
theorem gX4_requireCar_X4_isIn : GoodIn wsX4_requireCar (va_wsS RX4 50 yX4_isIn wsX4_isIn) := goodIn_app (goodIn_of _ (by decide +kernel)) ggX4_requireCar_X4_isIn
theorem dX4_requireCar_0 : decode cX4_requireCar 0 = .ok (.iload_n 0, 1) := by decide +kernel
theorem dX4_requireCar_1 : decode cX4_requireCar 1 = .ok (.iconst 0, 1) := by decide +kernel
theorem dX4_requireCar_2 : decode cX4_requireCar 2 = .ok (.iconst 2, 1) := by decide +kernel
theorem dX4_requireCar_3 : decode cX4_requireCar 3 = .ok (.invokestatic 50, 3) := by decide +kernel
theorem dX4_requireCar_6 : decode cX4_requireCar 6 = .ok (.ifCond .ne 14, 3) := by decide +kernel
theorem dX4_requireCar_9 : decode cX4_requireCar 9 = .ok (.new 259, 3) := by decide +kernel
theorem dX4_requireCar_12 : decode cX4_requireCar 12 = .ok (.dup, 1) := by decide +kernel
theorem dX4_requireCar_13 : decode cX4_requireCar 13 = .ok (.ldc_w 266, 3) := by decide +kernel
theorem dX4_requireCar_16 : decode cX4_requireCar 16 = .ok (.invokespecial 263, 3) := by decide +kernel
theorem dX4_requireCar_19 : decode cX4_requireCar 19 = .ok (.athrow, 1) := by decide +kernel
theorem dX4_requireCar_20 : decode cX4_requireCar 20 = .ok (.return_, 1) := by decide +kernel
set_option maxRecDepth 20000 in
theorem ggX4_requireZoom_X4_isIn : GoodIn wsX4_requireZoom wsX4_isIn := goodIn_r _ [6] (by decide +kernel) (by decide +kernel)
set_option maxRecDepth 20000 in
theorem gX4_requireZoom_X4_isIn : GoodIn wsX4_requireZoom (va_wsS RX4 50 yX4_isIn wsX4_isIn) := goodIn_app (goodIn_of _ (by decide +kernel)) ggX4_requireZoom_X4_isIn
theorem dX4_requireZoom_0 : decode cX4_requireZoom 0 = .ok (.iload_n 0, 1) := by decide +kernel
theorem dX4_requireZoom_1 : decode cX4_requireZoom 1 = .ok (.iconst 0, 1) := by decide +kernel
theorem dX4_requireZoom_2 : decode cX4_requireZoom 2 = .ok (.iconst 4, 1) := by decide +kernel
theorem dX4_requireZoom_3 : decode cX4_requireZoom 3 = .ok (.invokestatic 50, 3) := by decide +kernel
theorem dX4_requireZoom_6 : decode cX4_requireZoom 6 = .ok (.ifCond .ne 14, 3) := by decide +kernel
theorem dX4_requireZoom_9 : decode cX4_requireZoom 9 = .ok (.new 259, 3) := by decide +kernel
theorem dX4_requireZoom_12 : decode cX4_requireZoom 12 = .ok (.dup, 1) := by decide +kernel
theorem dX4_requireZoom_13 : decode cX4_requireZoom 13 = .ok (.ldc_w 268, 3) := by decide +kernel
theorem dX4_requireZoom_16 : decode cX4_requireZoom 16 = .ok (.invokespecial 263, 3) := by decide +kernel
theorem dX4_requireZoom_19 : decode cX4_requireZoom 19 = .ok (.athrow, 1) := by decide +kernel
theorem dX4_requireZoom_20 : decode cX4_requireZoom 20 = .ok (.return_, 1) := by decide +kernel
set_option maxRecDepth 20000 in
theorem ggX4_wayAt_Jx4a65c_size_8abf5 : GoodIn wsX4_wayAt wsJx4a65c_size_8abf5 := goodIn_r _ [9, 10, 34, 35, 36] (by decide +kernel) (by decide +kernel)
set_option maxRecDepth 20000 in
theorem gX4_wayAt_Jx4a65c_size_8abf5 : GoodIn wsX4_wayAt (wsV RX4 65 RJx4a65c yJx4a65c_size_8abf5 wsJx4a65c_size_8abf5) := goodIn_app (goodIn_of _ (by decide +kernel)) ggX4_wayAt_Jx4a65c_size_8abf5
set_option maxRecDepth 20000 in
theorem ggX4_wayAt_Jx4a65c_get_915e3 : GoodIn wsX4_wayAt wsJx4a65c_get_915e3 := goodIn_r _ [14, 10, 15, 16, 17, 18, 19, 20, 21, 22, 23, 24, 25, 8, 26, 27, 34, 35, 36] (by decide +kernel) (by decide +kernel)
set_option maxRecDepth 20000 in
theorem gX4_wayAt_Jx4a65c_get_915e3 : GoodIn wsX4_wayAt (wsV RX4 272 RJx4a65c yJx4a65c_get_915e3 wsJx4a65c_get_915e3) := goodIn_app (goodIn_of _ (by decide +kernel)) ggX4_wayAt_Jx4a65c_get_915e3
theorem dX4_wayAt_0 : decode cX4_wayAt 0 = .ok (.iload_n 1, 1) := by decide +kernel
theorem dX4_wayAt_1 : decode cX4_wayAt 1 = .ok (.ifCond .lt 14, 3) := by decide +kernel
theorem dX4_wayAt_4 : decode cX4_wayAt 4 = .ok (.iload_n 1, 1) := by decide +kernel
theorem dX4_wayAt_5 : decode cX4_wayAt 5 = .ok (.aload_n 0, 1) := by decide +kernel
theorem dX4_wayAt_6 : decode cX4_wayAt 6 = .ok (.getfield 10, 3) := by decide +kernel
theorem dX4_wayAt_9 : decode cX4_wayAt 9 = .ok (.invokevirtual 65, 3) := by decide +kernel
theorem dX4_wayAt_12 : decode cX4_wayAt 12 = .ok (.if_icmp .lt 14, 3) := by decide +kernel
theorem dX4_wayAt_15 : decode cX4_wayAt 15 = .ok (.new 259, 3) := by decide +kernel
theorem dX4_wayAt_18 : decode cX4_wayAt 18 = .ok (.dup, 1) := by decide +kernel
theorem dX4_wayAt_19 : decode cX4_wayAt 19 = .ok (.ldc_w 270, 3) := by decide +kernel
theorem dX4_wayAt_22 : decode cX4_wayAt 22 = .ok (.invokespecial 263, 3) := by decide +kernel
theorem dX4_wayAt_25 : decode cX4_wayAt 25 = .ok (.athrow, 1) := by decide +kernel
theorem dX4_wayAt_26 : decode cX4_wayAt 26 = .ok (.aload_n 0, 1) := by decide +kernel
theorem dX4_wayAt_27 : decode cX4_wayAt 27 = .ok (.getfield 10, 3) := by decide +kernel
theorem dX4_wayAt_30 : decode cX4_wayAt 30 = .ok (.iload_n 1, 1) := by decide +kernel
theorem dX4_wayAt_31 : decode cX4_wayAt 31 = .ok (.invokevirtual 272, 3) := by decide +kernel
theorem dX4_wayAt_34 : decode cX4_wayAt 34 = .ok (.checkcast 78, 3) := by decide +kernel
theorem dX4_wayAt_37 : decode cX4_wayAt 37 = .ok (.areturn, 1) := by decide +kernel
theorem dX4_versionAt_0 : decode cX4_versionAt 0 = .ok (.aload_n 0, 1) := by decide +kernel
theorem dX4_versionAt_1 : decode cX4_versionAt 1 = .ok (.getfield 133, 3) := by decide +kernel
theorem dX4_versionAt_4 : decode cX4_versionAt 4 = .ok (.astore_n 2, 1) := by decide +kernel
theorem dX4_versionAt_5 : decode cX4_versionAt 5 = .ok (.aload_n 2, 1) := by decide +kernel
theorem dX4_versionAt_6 : decode cX4_versionAt 6 = .ok (.ifnull 21, 3) := by decide +kernel
theorem dX4_versionAt_9 : decode cX4_versionAt 9 = .ok (.aload_n 2, 1) := by decide +kernel
theorem dX4_versionAt_10 : decode cX4_versionAt 10 = .ok (.getfield 276, 3) := by decide +kernel
theorem dX4_versionAt_13 : decode cX4_versionAt 13 = .ok (.iload_n 1, 1) := by decide +kernel
theorem dX4_versionAt_14 : decode cX4_versionAt 14 = .ok (.if_icmp .ne 5, 3) := by decide +kernel
theorem dX4_versionAt_17 : decode cX4_versionAt 17 = .ok (.aload_n 2, 1) := by decide +kernel
theorem dX4_versionAt_18 : decode cX4_versionAt 18 = .ok (.areturn, 1) := by decide +kernel
theorem dX4_versionAt_19 : decode cX4_versionAt 19 = .ok (.aload_n 2, 1) := by decide +kernel
theorem dX4_versionAt_20 : decode cX4_versionAt 20 = .ok (.getfield 137, 3) := by decide +kernel
theorem dX4_versionAt_23 : decode cX4_versionAt 23 = .ok (.astore_n 2, 1) := by decide +kernel
theorem dX4_versionAt_24 : decode cX4_versionAt 24 = .ok (.goto (-19), 3) := by decide +kernel
theorem dX4_versionAt_27 : decode cX4_versionAt 27 = .ok (.new 259, 3) := by decide +kernel
theorem dX4_versionAt_30 : decode cX4_versionAt 30 = .ok (.dup, 1) := by decide +kernel
theorem dX4_versionAt_31 : decode cX4_versionAt 31 = .ok (.ldc_w 279, 3) := by decide +kernel
theorem dX4_versionAt_34 : decode cX4_versionAt 34 = .ok (.invokespecial 263, 3) := by decide +kernel
theorem dX4_versionAt_37 : decode cX4_versionAt 37 = .ok (.athrow, 1) := by decide +kernel
theorem dX4_isFull_0 : decode cX4_isFull 0 = .ok (.aload_n 0, 1) := by decide +kernel
theorem dX4_isFull_1 : decode cX4_isFull 1 = .ok (.getfield 32, 3) := by decide +kernel
theorem dX4_isFull_4 : decode cX4_isFull 4 = .ok (.sipush 512, 3) := by decide +kernel
theorem dX4_isFull_7 : decode cX4_isFull 7 = .ok (.if_icmp .lt 7, 3) := by decide +kernel
theorem dX4_isFull_10 : decode cX4_isFull 10 = .ok (.iconst 1, 1) := by decide +kernel
theorem dX4_isFull_11 : decode cX4_isFull 11 = .ok (.goto 4, 3) := by decide +kernel
theorem dX4_isFull_14 : decode cX4_isFull 14 = .ok (.iconst 0, 1) := by decide +kernel
theorem dX4_isFull_15 : decode cX4_isFull 15 = .ok (.ireturn, 1) := by decide +kernel
set_option maxRecDepth 20000 in
theorem ggX4_newVersion_X2_init : GoodIn wsX4_newVersion wsX2_init := goodIn_r _ [7, 8, 9, 10, 11, 12, 13, 14, 21, 22, 23, 24] (by decide +kernel) (by decide +kernel)
set_option maxRecDepth 20000 in
theorem gX4_newVersion_X2_init : GoodIn wsX4_newVersion (wsX2_init) := ggX4_newVersion_X2_init
theorem dX4_newVersion_0 : decode cX4_newVersion 0 = .ok (.aload_n 0, 1) := by decide +kernel
theorem dX4_newVersion_1 : decode cX4_newVersion 1 = .ok (.dup, 1) := by decide +kernel
theorem dX4_newVersion_2 : decode cX4_newVersion 2 = .ok (.getfield 32, 3) := by decide +kernel
theorem dX4_newVersion_5 : decode cX4_newVersion 5 = .ok (.iconst 1, 1) := by decide +kernel
theorem dX4_newVersion_6 : decode cX4_newVersion 6 = .ok (.iadd, 1) := by decide +kernel
theorem dX4_newVersion_7 : decode cX4_newVersion 7 = .ok (.putfield 32, 3) := by decide +kernel
theorem dX4_newVersion_10 : decode cX4_newVersion 10 = .ok (.new 138, 3) := by decide +kernel
theorem dX4_newVersion_13 : decode cX4_newVersion 13 = .ok (.dup, 1) := by decide +kernel
theorem dX4_newVersion_14 : decode cX4_newVersion 14 = .ok (.aload_n 1, 1) := by decide +kernel
theorem dX4_newVersion_15 : decode cX4_newVersion 15 = .ok (.aload_n 0, 1) := by decide +kernel
theorem dX4_newVersion_16 : decode cX4_newVersion 16 = .ok (.getfield 32, 3) := by decide +kernel
theorem dX4_newVersion_19 : decode cX4_newVersion 19 = .ok (.aload_n 2, 1) := by decide +kernel
theorem dX4_newVersion_20 : decode cX4_newVersion 20 = .ok (.invokespecial 281, 3) := by decide +kernel
theorem dX4_newVersion_23 : decode cX4_newVersion 23 = .ok (.areturn, 1) := by decide +kernel
set_option maxRecDepth 20000 in
theorem ggX4_addVersion_X4_newVersion : GoodIn wsX4_addVersion wsX4_newVersion := goodIn_r _ [7, 8, 9, 10, 11, 12, 13, 14, 15, 16, 17, 18, 19, 20, 21, 30, 31, 32, 33, 34, 35, 36, 37, 38, 39] (by decide +kernel) (by decide +kernel)
set_option maxRecDepth 20000 in
theorem gX4_addVersion_X4_newVersion : GoodIn wsX4_addVersion (wsV RX4 85 RX4 yX4_newVersion wsX4_newVersion) := goodIn_app (goodIn_of _ (by decide +kernel)) ggX4_addVersion_X4_newVersion
theorem dX4_addVersion_0 : decode cX4_addVersion 0 = .ok (.aload_n 1, 1) := by decide +kernel
theorem dX4_addVersion_1 : decode cX4_addVersion 1 = .ok (.aload_n 0, 1) := by decide +kernel
theorem dX4_addVersion_2 : decode cX4_addVersion 2 = .ok (.aload_n 2, 1) := by decide +kernel
theorem dX4_addVersion_3 : decode cX4_addVersion 3 = .ok (.aload_n 1, 1) := by decide +kernel
theorem dX4_addVersion_4 : decode cX4_addVersion 4 = .ok (.getfield 133, 3) := by decide +kernel
theorem dX4_addVersion_7 : decode cX4_addVersion 7 = .ok (.invokevirtual 85, 3) := by decide +kernel
theorem dX4_addVersion_10 : decode cX4_addVersion 10 = .ok (.putfield 133, 3) := by decide +kernel
theorem dX4_addVersion_13 : decode cX4_addVersion 13 = .ok (.aload_n 1, 1) := by decide +kernel
theorem dX4_addVersion_14 : decode cX4_addVersion 14 = .ok (.aconst_null, 1) := by decide +kernel
theorem dX4_addVersion_15 : decode cX4_addVersion 15 = .ok (.putfield 116, 3) := by decide +kernel
theorem dX4_addVersion_18 : decode cX4_addVersion 18 = .ok (.return_, 1) := by decide +kernel
theorem dX4_addTrust_0 : decode cX4_addTrust 0 = .ok (.aload_n 0, 1) := by decide +kernel
theorem dX4_addTrust_1 : decode cX4_addTrust 1 = .ok (.getfield 16, 3) := by decide +kernel
theorem dX4_addTrust_4 : decode cX4_addTrust 4 = .ok (.iload_n 1, 1) := by decide +kernel
theorem dX4_addTrust_5 : decode cX4_addTrust 5 = .ok (.iconst 0, 1) := by decide +kernel
theorem dX4_addTrust_6 : decode cX4_addTrust 6 = .ok (.bipush 100, 2) := by decide +kernel
theorem dX4_addTrust_8 : decode cX4_addTrust 8 = .ok (.aload_n 0, 1) := by decide +kernel
theorem dX4_addTrust_9 : decode cX4_addTrust 9 = .ok (.getfield 16, 3) := by decide +kernel
theorem dX4_addTrust_12 : decode cX4_addTrust 12 = .ok (.iload_n 1, 1) := by decide +kernel
theorem dX4_addTrust_13 : decode cX4_addTrust 13 = .ok (.iaload, 1) := by decide +kernel
theorem dX4_addTrust_14 : decode cX4_addTrust 14 = .ok (.iload_n 2, 1) := by decide +kernel
theorem dX4_addTrust_15 : decode cX4_addTrust 15 = .ok (.iadd, 1) := by decide +kernel
theorem dX4_addTrust_16 : decode cX4_addTrust 16 = .ok (.invokestatic 284, 3) := by decide +kernel
theorem dX4_addTrust_19 : decode cX4_addTrust 19 = .ok (.invokestatic 289, 3) := by decide +kernel
theorem dX4_addTrust_22 : decode cX4_addTrust 22 = .ok (.iastore, 1) := by decide +kernel
theorem dX4_addTrust_23 : decode cX4_addTrust 23 = .ok (.aload_n 0, 1) := by decide +kernel
theorem dX4_addTrust_24 : decode cX4_addTrust 24 = .ok (.getfield 16, 3) := by decide +kernel
theorem dX4_addTrust_27 : decode cX4_addTrust 27 = .ok (.iload_n 1, 1) := by decide +kernel
theorem dX4_addTrust_28 : decode cX4_addTrust 28 = .ok (.iaload, 1) := by decide +kernel
theorem dX4_addTrust_29 : decode cX4_addTrust 29 = .ok (.ireturn, 1) := by decide +kernel
theorem dX4_tilesAcross_0 : decode cX4_tilesAcross 0 = .ok (.iconst 1, 1) := by decide +kernel
theorem dX4_tilesAcross_1 : decode cX4_tilesAcross 1 = .ok (.iload_n 0, 1) := by decide +kernel
theorem dX4_tilesAcross_2 : decode cX4_tilesAcross 2 = .ok (.ishl, 1) := by decide +kernel
theorem dX4_tilesAcross_3 : decode cX4_tilesAcross 3 = .ok (.ireturn, 1) := by decide +kernel
set_option maxRecDepth 20000 in
theorem ggX4_tileIndex_X4_requireZoom : GoodIn wsX4_tileIndex wsX4_requireZoom := goodIn_ca (goodIn_r _ [7, 1, 2, 8, 9, 6, 10] (by decide +kernel) (by decide +kernel)) (goodIn_sub (fun _ h => List.mem_cons_of_mem _ (List.mem_append_right _ h)) (by decide +kernel))
set_option maxRecDepth 20000 in
theorem gX4_tileIndex_X4_requireZoom : GoodIn wsX4_tileIndex (va_wsS RX4 197 yX4_requireZoom wsX4_requireZoom) := goodIn_app (goodIn_of _ (by decide +kernel)) ggX4_tileIndex_X4_requireZoom
set_option maxRecDepth 20000 in
theorem ggX4_tileIndex_X4_tilesAcross : GoodIn wsX4_tileIndex wsX4_tilesAcross := goodIn_r _ [13] (by decide +kernel) (by decide +kernel)
set_option maxRecDepth 20000 in
theorem gX4_tileIndex_X4_tilesAcross : GoodIn wsX4_tileIndex (va_wsS RX4 203 yX4_tilesAcross wsX4_tilesAcross) := goodIn_app (goodIn_of _ (by decide +kernel)) ggX4_tileIndex_X4_tilesAcross
set_option maxRecDepth 20000 in
theorem ggX4_tileIndex_X4_isIn : GoodIn wsX4_tileIndex wsX4_isIn := goodIn_r _ [10] (by decide +kernel) (by decide +kernel)
set_option maxRecDepth 20000 in
theorem gX4_tileIndex_X4_isIn : GoodIn wsX4_tileIndex (va_wsS RX4 50 yX4_isIn wsX4_isIn) := goodIn_app (goodIn_of _ (by decide +kernel)) ggX4_tileIndex_X4_isIn
theorem dX4_tileIndex_0 : decode cX4_tileIndex 0 = .ok (.iload_n 0, 1) := by decide +kernel
theorem dX4_tileIndex_1 : decode cX4_tileIndex 1 = .ok (.invokestatic 197, 3) := by decide +kernel
theorem dX4_tileIndex_4 : decode cX4_tileIndex 4 = .ok (.iload_n 0, 1) := by decide +kernel
theorem dX4_tileIndex_5 : decode cX4_tileIndex 5 = .ok (.invokestatic 203, 3) := by decide +kernel
theorem dX4_tileIndex_8 : decode cX4_tileIndex 8 = .ok (.istore_n 3, 1) := by decide +kernel
theorem dX4_tileIndex_9 : decode cX4_tileIndex 9 = .ok (.iload_n 1, 1) := by decide +kernel
theorem dX4_tileIndex_10 : decode cX4_tileIndex 10 = .ok (.iconst 0, 1) := by decide +kernel
theorem dX4_tileIndex_11 : decode cX4_tileIndex 11 = .ok (.iload_n 3, 1) := by decide +kernel
theorem dX4_tileIndex_12 : decode cX4_tileIndex 12 = .ok (.iconst 1, 1) := by decide +kernel
theorem dX4_tileIndex_13 : decode cX4_tileIndex 13 = .ok (.isub, 1) := by decide +kernel
theorem dX4_tileIndex_14 : decode cX4_tileIndex 14 = .ok (.invokestatic 50, 3) := by decide +kernel
theorem dX4_tileIndex_17 : decode cX4_tileIndex 17 = .ok (.ifCond .eq 14, 3) := by decide +kernel
theorem dX4_tileIndex_20 : decode cX4_tileIndex 20 = .ok (.iload_n 2, 1) := by decide +kernel
theorem dX4_tileIndex_21 : decode cX4_tileIndex 21 = .ok (.iconst 0, 1) := by decide +kernel
theorem dX4_tileIndex_22 : decode cX4_tileIndex 22 = .ok (.iload_n 3, 1) := by decide +kernel
theorem dX4_tileIndex_23 : decode cX4_tileIndex 23 = .ok (.iconst 1, 1) := by decide +kernel
theorem dX4_tileIndex_24 : decode cX4_tileIndex 24 = .ok (.isub, 1) := by decide +kernel
theorem dX4_tileIndex_25 : decode cX4_tileIndex 25 = .ok (.invokestatic 50, 3) := by decide +kernel
theorem dX4_tileIndex_28 : decode cX4_tileIndex 28 = .ok (.ifCond .ne 14, 3) := by decide +kernel
theorem dX4_tileIndex_31 : decode cX4_tileIndex 31 = .ok (.new 259, 3) := by decide +kernel
theorem dX4_tileIndex_34 : decode cX4_tileIndex 34 = .ok (.dup, 1) := by decide +kernel
theorem dX4_tileIndex_35 : decode cX4_tileIndex 35 = .ok (.ldc_w 292, 3) := by decide +kernel
theorem dX4_tileIndex_38 : decode cX4_tileIndex 38 = .ok (.invokespecial 263, 3) := by decide +kernel
theorem dX4_tileIndex_41 : decode cX4_tileIndex 41 = .ok (.athrow, 1) := by decide +kernel
theorem dX4_tileIndex_42 : decode cX4_tileIndex 42 = .ok (.getstatic 200, 3) := by decide +kernel
theorem dX4_tileIndex_45 : decode cX4_tileIndex 45 = .ok (.iload_n 0, 1) := by decide +kernel
theorem dX4_tileIndex_46 : decode cX4_tileIndex 46 = .ok (.iaload, 1) := by decide +kernel
theorem dX4_tileIndex_47 : decode cX4_tileIndex 47 = .ok (.iload_n 2, 1) := by decide +kernel
theorem dX4_tileIndex_48 : decode cX4_tileIndex 48 = .ok (.iload_n 3, 1) := by decide +kernel
theorem dX4_tileIndex_49 : decode cX4_tileIndex 49 = .ok (.imul, 1) := by decide +kernel
theorem dX4_tileIndex_50 : decode cX4_tileIndex 50 = .ok (.iadd, 1) := by decide +kernel
theorem dX4_tileIndex_51 : decode cX4_tileIndex 51 = .ok (.iload_n 1, 1) := by decide +kernel
theorem dX4_tileIndex_52 : decode cX4_tileIndex 52 = .ok (.iadd, 1) := by decide +kernel
theorem dX4_tileIndex_53 : decode cX4_tileIndex 53 = .ok (.ireturn, 1) := by decide +kernel
set_option maxRecDepth 20000 in
theorem ggX4_drawnTile_X4_tileIndex : GoodIn wsX4_drawnTile wsX4_tileIndex := goodIn_ca (goodIn_r _ [7, 8, 9, 10, 11, 12, 6, 13, 14, 15, 16, 17, 18, 19] (by decide +kernel) (by decide +kernel)) (goodIn_sub (fun _ h => List.mem_cons_of_mem _ (List.mem_append_right _ h)) (by decide +kernel))
set_option maxRecDepth 20000 in
theorem gX4_drawnTile_X4_tileIndex : GoodIn wsX4_drawnTile (va_wsS RX4 168 yX4_tileIndex wsX4_tileIndex) := goodIn_app (goodIn_of _ (by decide +kernel)) ggX4_drawnTile_X4_tileIndex
theorem dX4_drawnTile_0 : decode cX4_drawnTile 0 = .ok (.aload_n 0, 1) := by decide +kernel
theorem dX4_drawnTile_1 : decode cX4_drawnTile 1 = .ok (.getfield 28, 3) := by decide +kernel
theorem dX4_drawnTile_4 : decode cX4_drawnTile 4 = .ok (.iload_n 1, 1) := by decide +kernel
theorem dX4_drawnTile_5 : decode cX4_drawnTile 5 = .ok (.iload_n 2, 1) := by decide +kernel
theorem dX4_drawnTile_6 : decode cX4_drawnTile 6 = .ok (.iload_n 3, 1) := by decide +kernel
theorem dX4_drawnTile_7 : decode cX4_drawnTile 7 = .ok (.invokestatic 168, 3) := by decide +kernel
theorem dX4_drawnTile_10 : decode cX4_drawnTile 10 = .ok (.aaload, 1) := by decide +kernel
theorem dX4_drawnTile_11 : decode cX4_drawnTile 11 = .ok (.astore 4, 2) := by decide +kernel
theorem dX4_drawnTile_13 : decode cX4_drawnTile 13 = .ok (.aload 4, 2) := by decide +kernel
theorem dX4_drawnTile_15 : decode cX4_drawnTile 15 = .ok (.ifnonnull 14, 3) := by decide +kernel
theorem dX4_drawnTile_18 : decode cX4_drawnTile 18 = .ok (.new 73, 3) := by decide +kernel
theorem dX4_drawnTile_21 : decode cX4_drawnTile 21 = .ok (.dup, 1) := by decide +kernel
theorem dX4_drawnTile_22 : decode cX4_drawnTile 22 = .ok (.ldc_w 294, 3) := by decide +kernel
theorem dX4_drawnTile_25 : decode cX4_drawnTile 25 = .ok (.invokespecial 77, 3) := by decide +kernel
theorem dX4_drawnTile_28 : decode cX4_drawnTile 28 = .ok (.athrow, 1) := by decide +kernel
theorem dX4_drawnTile_29 : decode cX4_drawnTile 29 = .ok (.aload 4, 2) := by decide +kernel
theorem dX4_drawnTile_31 : decode cX4_drawnTile 31 = .ok (.areturn, 1) := by decide +kernel
set_option maxRecDepth 20000 in
theorem ggX4_keepPicture_X4_pictureAt : GoodIn wsX4_keepPicture wsX4_pictureAt := goodIn_r _ [8, 9, 10, 11, 12, 13, 14, 15, 16, 17, 18, 19, 20, 21, 22, 23, 24, 25, 26, 27, 28, 29, 30, 31, 32, 33, 34, 35, 36, 37, 38, 39, 40, 41, 42, 43, 44, 45, 46, 47, 48, 49, 50, 51, 52, 53, 54, 55, 56, 57, 58, 59, 60, 61, 62, 63, 64, 65, 66, 67, 68, 69, 70, 78, 79, 80, 81, 82, 83, 84, 85, 86, 87, 88, 89, 90, 91, 92, 93, 94, 95, 71, 72, 73, 74, 75, 76, 77] (by decide +kernel) (by decide +kernel)
set_option maxRecDepth 20000 in
theorem gX4_keepPicture_X4_pictureAt : GoodIn wsX4_keepPicture (wsV RX4 189 RX4 yX4_pictureAt wsX4_pictureAt) := goodIn_app (goodIn_of _ (by decide +kernel)) ggX4_keepPicture_X4_pictureAt
theorem dX4_keepPicture_0 : decode cX4_keepPicture 0 = .ok (.aload_n 1, 1) := by decide +kernel
theorem dX4_keepPicture_1 : decode cX4_keepPicture 1 = .ok (.aload_n 0, 1) := by decide +kernel
theorem dX4_keepPicture_2 : decode cX4_keepPicture 2 = .ok (.getfield 32, 3) := by decide +kernel
theorem dX4_keepPicture_5 : decode cX4_keepPicture 5 = .ok (.putfield 188, 3) := by decide +kernel
theorem dX4_keepPicture_8 : decode cX4_keepPicture 8 = .ok (.aload_n 1, 1) := by decide +kernel
theorem dX4_keepPicture_9 : decode cX4_keepPicture 9 = .ok (.aload_n 0, 1) := by decide +kernel
theorem dX4_keepPicture_10 : decode cX4_keepPicture 10 = .ok (.aload_n 1, 1) := by decide +kernel
theorem dX4_keepPicture_11 : decode cX4_keepPicture 11 = .ok (.aload_n 0, 1) := by decide +kernel
theorem dX4_keepPicture_12 : decode cX4_keepPicture 12 = .ok (.getfield 32, 3) := by decide +kernel
theorem dX4_keepPicture_15 : decode cX4_keepPicture 15 = .ok (.invokevirtual 189, 3) := by decide +kernel
theorem dX4_keepPicture_18 : decode cX4_keepPicture 18 = .ok (.putfield 185, 3) := by decide +kernel
theorem dX4_keepPicture_21 : decode cX4_keepPicture 21 = .ok (.return_, 1) := by decide +kernel
set_option maxRecDepth 20000 in
theorem ggX4_pictureAt_Jx4a65c_size_8abf5 : GoodIn wsX4_pictureAt wsJx4a65c_size_8abf5 := goodIn_r _ [9, 10, 66, 67, 68] (by decide +kernel) (by decide +kernel)
set_option maxRecDepth 20000 in
theorem gX4_pictureAt_Jx4a65c_size_8abf5 : GoodIn wsX4_pictureAt (wsV RX4 65 RJx4a65c yJx4a65c_size_8abf5 wsJx4a65c_size_8abf5) := goodIn_app (goodIn_of _ (by decide +kernel)) ggX4_pictureAt_Jx4a65c_size_8abf5
set_option maxRecDepth 20000 in
theorem ggX4_pictureAt_Jx4a65c_get_915e3 : GoodIn wsX4_pictureAt wsJx4a65c_get_915e3 := goodIn_r _ [14, 10, 15, 16, 17, 18, 19, 20, 21, 22, 23, 24, 25, 8, 26, 27, 66, 67, 68] (by decide +kernel) (by decide +kernel)
set_option maxRecDepth 20000 in
theorem gX4_pictureAt_Jx4a65c_get_915e3 : GoodIn wsX4_pictureAt (wsV RX4 272 RJx4a65c yJx4a65c_get_915e3 wsJx4a65c_get_915e3) := goodIn_app (goodIn_of _ (by decide +kernel)) ggX4_pictureAt_Jx4a65c_get_915e3
set_option maxRecDepth 20000 in
theorem ggX4_pictureAt_X3_shownIn : GoodIn wsX4_pictureAt wsX3_shownIn := goodIn_r _ [32, 33, 34, 35, 36, 37, 38, 39, 31, 40, 41, 42, 43, 44, 45, 46, 47, 48, 49, 50, 51, 52, 53, 54, 55, 56, 69, 70, 71, 72, 73, 74, 75, 76, 77, 78, 79, 80, 81, 82, 83, 84, 85, 86, 87, 63, 64, 65] (by decide +kernel) (by decide +kernel)
set_option maxRecDepth 20000 in
theorem gX4_pictureAt_X3_shownIn : GoodIn wsX4_pictureAt (wsV RX4 296 RX3 yX3_shownIn wsX3_shownIn) := goodIn_app (goodIn_of _ (by decide +kernel)) ggX4_pictureAt_X3_shownIn
theorem dX4_pictureAt_0 : decode cX4_pictureAt 0 = .ok (.bipush 17, 2) := by decide +kernel
theorem dX4_pictureAt_2 : decode cX4_pictureAt 2 = .ok (.istore_n 3, 1) := by decide +kernel
theorem dX4_pictureAt_3 : decode cX4_pictureAt 3 = .ok (.iconst 0, 1) := by decide +kernel
theorem dX4_pictureAt_4 : decode cX4_pictureAt 4 = .ok (.istore 4, 2) := by decide +kernel
theorem dX4_pictureAt_6 : decode cX4_pictureAt 6 = .ok (.iload 4, 2) := by decide +kernel
theorem dX4_pictureAt_8 : decode cX4_pictureAt 8 = .ok (.aload_n 0, 1) := by decide +kernel
theorem dX4_pictureAt_9 : decode cX4_pictureAt 9 = .ok (.getfield 10, 3) := by decide +kernel
theorem dX4_pictureAt_12 : decode cX4_pictureAt 12 = .ok (.invokevirtual 65, 3) := by decide +kernel
theorem dX4_pictureAt_15 : decode cX4_pictureAt 15 = .ok (.if_icmp .ge 58, 3) := by decide +kernel
theorem dX4_pictureAt_18 : decode cX4_pictureAt 18 = .ok (.aload_n 0, 1) := by decide +kernel
theorem dX4_pictureAt_19 : decode cX4_pictureAt 19 = .ok (.getfield 10, 3) := by decide +kernel
theorem dX4_pictureAt_22 : decode cX4_pictureAt 22 = .ok (.iload 4, 2) := by decide +kernel
theorem dX4_pictureAt_24 : decode cX4_pictureAt 24 = .ok (.invokevirtual 272, 3) := by decide +kernel
theorem dX4_pictureAt_27 : decode cX4_pictureAt 27 = .ok (.checkcast 78, 3) := by decide +kernel
theorem dX4_pictureAt_30 : decode cX4_pictureAt 30 = .ok (.aload_n 1, 1) := by decide +kernel
theorem dX4_pictureAt_31 : decode cX4_pictureAt 31 = .ok (.iload_n 2, 1) := by decide +kernel
theorem dX4_pictureAt_32 : decode cX4_pictureAt 32 = .ok (.invokevirtual 296, 3) := by decide +kernel
theorem dX4_pictureAt_35 : decode cX4_pictureAt 35 = .ok (.astore 5, 2) := by decide +kernel
theorem dX4_pictureAt_37 : decode cX4_pictureAt 37 = .ok (.aload 5, 2) := by decide +kernel
theorem dX4_pictureAt_39 : decode cX4_pictureAt 39 = .ok (.ifnull 28, 3) := by decide +kernel
theorem dX4_pictureAt_42 : decode cX4_pictureAt 42 = .ok (.bipush 31, 2) := by decide +kernel
theorem dX4_pictureAt_44 : decode cX4_pictureAt 44 = .ok (.iload_n 3, 1) := by decide +kernel
theorem dX4_pictureAt_45 : decode cX4_pictureAt 45 = .ok (.imul, 1) := by decide +kernel
theorem dX4_pictureAt_46 : decode cX4_pictureAt 46 = .ok (.bipush 16, 2) := by decide +kernel
theorem dX4_pictureAt_48 : decode cX4_pictureAt 48 = .ok (.iload 4, 2) := by decide +kernel
theorem dX4_pictureAt_50 : decode cX4_pictureAt 50 = .ok (.imul, 1) := by decide +kernel
theorem dX4_pictureAt_51 : decode cX4_pictureAt 51 = .ok (.iadd, 1) := by decide +kernel
theorem dX4_pictureAt_52 : decode cX4_pictureAt 52 = .ok (.iconst 4, 1) := by decide +kernel
theorem dX4_pictureAt_53 : decode cX4_pictureAt 53 = .ok (.aload 5, 2) := by decide +kernel
theorem dX4_pictureAt_55 : decode cX4_pictureAt 55 = .ok (.getfield 149, 3) := by decide +kernel
theorem dX4_pictureAt_58 : decode cX4_pictureAt 58 = .ok (.imul, 1) := by decide +kernel
theorem dX4_pictureAt_59 : decode cX4_pictureAt 59 = .ok (.iadd, 1) := by decide +kernel
theorem dX4_pictureAt_60 : decode cX4_pictureAt 60 = .ok (.aload 5, 2) := by decide +kernel
theorem dX4_pictureAt_62 : decode cX4_pictureAt 62 = .ok (.getfield 151, 3) := by decide +kernel
theorem dX4_pictureAt_65 : decode cX4_pictureAt 65 = .ok (.iadd, 1) := by decide +kernel
theorem dX4_pictureAt_66 : decode cX4_pictureAt 66 = .ok (.istore_n 3, 1) := by decide +kernel
theorem dX4_pictureAt_67 : decode cX4_pictureAt 67 = .ok (.iinc 4 1, 3) := by decide +kernel
theorem dX4_pictureAt_70 : decode cX4_pictureAt 70 = .ok (.goto (-64), 3) := by decide +kernel
theorem dX4_pictureAt_73 : decode cX4_pictureAt 73 = .ok (.iload_n 3, 1) := by decide +kernel
theorem dX4_pictureAt_74 : decode cX4_pictureAt 74 = .ok (.ireturn, 1) := by decide +kernel
set_option maxRecDepth 20000 in
theorem ggX4_countWaysIn_Jx4a65c_size_8abf5 : GoodIn wsX4_countWaysIn wsJx4a65c_size_8abf5 := goodIn_r _ [8, 9, 69, 70, 71] (by decide +kernel) (by decide +kernel)
set_option maxRecDepth 20000 in
theorem gX4_countWaysIn_Jx4a65c_size_8abf5 : GoodIn wsX4_countWaysIn (wsV RX4 65 RJx4a65c yJx4a65c_size_8abf5 wsJx4a65c_size_8abf5) := goodIn_app (goodIn_of _ (by decide +kernel)) ggX4_countWaysIn_Jx4a65c_size_8abf5
set_option maxRecDepth 20000 in
theorem ggX4_countWaysIn_Jx4a65c_get_915e3 : GoodIn wsX4_countWaysIn wsJx4a65c_get_915e3 := goodIn_r _ [13, 9, 14, 15, 16, 17, 18, 19, 20, 21, 22, 23, 24, 7, 25, 26, 69, 70, 71] (by decide +kernel) (by decide +kernel)
set_option maxRecDepth 20000 in
theorem gX4_countWaysIn_Jx4a65c_get_915e3 : GoodIn wsX4_countWaysIn (wsV RX4 272 RJx4a65c yJx4a65c_get_915e3 wsJx4a65c_get_915e3) := goodIn_app (goodIn_of _ (by decide +kernel)) ggX4_countWaysIn_Jx4a65c_get_915e3
set_option maxRecDepth 20000 in
theorem ggX4_countWaysIn_X3_shownIn : GoodIn wsX4_countWaysIn wsX3_shownIn := goodIn_r _ [31, 32, 33, 34, 35, 36, 37, 38, 30, 39, 40, 41, 42, 43, 44, 45, 46, 47, 48, 49, 50, 51, 52, 53, 54, 55, 72, 73, 74, 75, 76, 77, 78, 79, 80, 81, 82, 83, 62, 63, 64, 65, 66, 67, 68, 84, 85, 86] (by decide +kernel) (by decide +kernel)
set_option maxRecDepth 20000 in
theorem gX4_countWaysIn_X3_shownIn : GoodIn wsX4_countWaysIn (wsV RX4 296 RX3 yX3_shownIn wsX3_shownIn) := goodIn_app (goodIn_of _ (by decide +kernel)) ggX4_countWaysIn_X3_shownIn
theorem dX4_countWaysIn_0 : decode cX4_countWaysIn 0 = .ok (.iconst 0, 1) := by decide +kernel
theorem dX4_countWaysIn_1 : decode cX4_countWaysIn 1 = .ok (.istore_n 2, 1) := by decide +kernel
theorem dX4_countWaysIn_2 : decode cX4_countWaysIn 2 = .ok (.iconst 0, 1) := by decide +kernel
theorem dX4_countWaysIn_3 : decode cX4_countWaysIn 3 = .ok (.istore_n 3, 1) := by decide +kernel
theorem dX4_countWaysIn_4 : decode cX4_countWaysIn 4 = .ok (.iload_n 3, 1) := by decide +kernel
theorem dX4_countWaysIn_5 : decode cX4_countWaysIn 5 = .ok (.aload_n 0, 1) := by decide +kernel
theorem dX4_countWaysIn_6 : decode cX4_countWaysIn 6 = .ok (.getfield 10, 3) := by decide +kernel
theorem dX4_countWaysIn_9 : decode cX4_countWaysIn 9 = .ok (.invokevirtual 65, 3) := by decide +kernel
theorem dX4_countWaysIn_12 : decode cX4_countWaysIn 12 = .ok (.if_icmp .ge 34, 3) := by decide +kernel
theorem dX4_countWaysIn_15 : decode cX4_countWaysIn 15 = .ok (.aload_n 0, 1) := by decide +kernel
theorem dX4_countWaysIn_16 : decode cX4_countWaysIn 16 = .ok (.getfield 10, 3) := by decide +kernel
theorem dX4_countWaysIn_19 : decode cX4_countWaysIn 19 = .ok (.iload_n 3, 1) := by decide +kernel
theorem dX4_countWaysIn_20 : decode cX4_countWaysIn 20 = .ok (.invokevirtual 272, 3) := by decide +kernel
theorem dX4_countWaysIn_23 : decode cX4_countWaysIn 23 = .ok (.checkcast 78, 3) := by decide +kernel
theorem dX4_countWaysIn_26 : decode cX4_countWaysIn 26 = .ok (.aload_n 1, 1) := by decide +kernel
theorem dX4_countWaysIn_27 : decode cX4_countWaysIn 27 = .ok (.aload_n 1, 1) := by decide +kernel
theorem dX4_countWaysIn_28 : decode cX4_countWaysIn 28 = .ok (.getfield 188, 3) := by decide +kernel
theorem dX4_countWaysIn_31 : decode cX4_countWaysIn 31 = .ok (.invokevirtual 296, 3) := by decide +kernel
theorem dX4_countWaysIn_34 : decode cX4_countWaysIn 34 = .ok (.ifnull 6, 3) := by decide +kernel
theorem dX4_countWaysIn_37 : decode cX4_countWaysIn 37 = .ok (.iinc 2 1, 3) := by decide +kernel
theorem dX4_countWaysIn_40 : decode cX4_countWaysIn 40 = .ok (.iinc 3 1, 3) := by decide +kernel
theorem dX4_countWaysIn_43 : decode cX4_countWaysIn 43 = .ok (.goto (-39), 3) := by decide +kernel
theorem dX4_countWaysIn_46 : decode cX4_countWaysIn 46 = .ok (.iload_n 2, 1) := by decide +kernel
theorem dX4_countWaysIn_47 : decode cX4_countWaysIn 47 = .ok (.ireturn, 1) := by decide +kernel
set_option maxRecDepth 20000 in
theorem ggX4_isOutdated_Jx4a65c_size_8abf5 : GoodIn wsX4_isOutdated wsJx4a65c_size_8abf5 := goodIn_r _ [7, 8, 61, 62, 63] (by decide +kernel) (by decide +kernel)
set_option maxRecDepth 20000 in
theorem gX4_isOutdated_Jx4a65c_size_8abf5 : GoodIn wsX4_isOutdated (wsV RX4 65 RJx4a65c yJx4a65c_size_8abf5 wsJx4a65c_size_8abf5) := goodIn_app (goodIn_of _ (by decide +kernel)) ggX4_isOutdated_Jx4a65c_size_8abf5
set_option maxRecDepth 20000 in
theorem ggX4_isOutdated_Jx4a65c_get_915e3 : GoodIn wsX4_isOutdated wsJx4a65c_get_915e3 := goodIn_r _ [12, 8, 13, 14, 15, 16, 17, 18, 19, 20, 21, 22, 23, 6, 24, 25, 61, 62, 63] (by decide +kernel) (by decide +kernel)
set_option maxRecDepth 20000 in
theorem gX4_isOutdated_Jx4a65c_get_915e3 : GoodIn wsX4_isOutdated (wsV RX4 272 RJx4a65c yJx4a65c_get_915e3 wsJx4a65c_get_915e3) := goodIn_app (goodIn_of _ (by decide +kernel)) ggX4_isOutdated_Jx4a65c_get_915e3
set_option maxRecDepth 20000 in
theorem ggX4_isOutdated_X3_outdates : GoodIn wsX4_isOutdated wsX3_outdates := goodIn_r _ [30, 31, 32, 33, 34, 35, 36, 37, 29, 38, 39, 40, 41, 42, 43, 44, 45, 46, 47, 48, 49, 50, 51, 52, 53, 54, 64, 65, 66, 67, 68, 69, 70, 71, 72, 73, 74, 75, 76, 77, 78, 79, 80, 81, 82, 83, 84, 85] (by decide +kernel) (by decide +kernel)
set_option maxRecDepth 20000 in
theorem gX4_isOutdated_X3_outdates : GoodIn wsX4_isOutdated (wsV RX4 300 RX3 yX3_outdates wsX3_outdates) := goodIn_app (goodIn_of _ (by decide +kernel)) ggX4_isOutdated_X3_outdates
theorem dX4_isOutdated_0 : decode cX4_isOutdated 0 = .ok (.aload_n 1, 1) := by decide +kernel
theorem dX4_isOutdated_1 : decode cX4_isOutdated 1 = .ok (.ifnonnull 5, 3) := by decide +kernel
theorem dX4_isOutdated_4 : decode cX4_isOutdated 4 = .ok (.iconst 0, 1) := by decide +kernel
theorem dX4_isOutdated_5 : decode cX4_isOutdated 5 = .ok (.ireturn, 1) := by decide +kernel
theorem dX4_isOutdated_6 : decode cX4_isOutdated 6 = .ok (.iconst 0, 1) := by decide +kernel
theorem dX4_isOutdated_7 : decode cX4_isOutdated 7 = .ok (.istore_n 2, 1) := by decide +kernel
theorem dX4_isOutdated_8 : decode cX4_isOutdated 8 = .ok (.iload_n 2, 1) := by decide +kernel
theorem dX4_isOutdated_9 : decode cX4_isOutdated 9 = .ok (.aload_n 0, 1) := by decide +kernel
theorem dX4_isOutdated_10 : decode cX4_isOutdated 10 = .ok (.getfield 10, 3) := by decide +kernel
theorem dX4_isOutdated_13 : decode cX4_isOutdated 13 = .ok (.invokevirtual 65, 3) := by decide +kernel
theorem dX4_isOutdated_16 : decode cX4_isOutdated 16 = .ok (.if_icmp .ge 29, 3) := by decide +kernel
theorem dX4_isOutdated_19 : decode cX4_isOutdated 19 = .ok (.aload_n 0, 1) := by decide +kernel
theorem dX4_isOutdated_20 : decode cX4_isOutdated 20 = .ok (.getfield 10, 3) := by decide +kernel
theorem dX4_isOutdated_23 : decode cX4_isOutdated 23 = .ok (.iload_n 2, 1) := by decide +kernel
theorem dX4_isOutdated_24 : decode cX4_isOutdated 24 = .ok (.invokevirtual 272, 3) := by decide +kernel
theorem dX4_isOutdated_27 : decode cX4_isOutdated 27 = .ok (.checkcast 78, 3) := by decide +kernel
theorem dX4_isOutdated_30 : decode cX4_isOutdated 30 = .ok (.aload_n 1, 1) := by decide +kernel
theorem dX4_isOutdated_31 : decode cX4_isOutdated 31 = .ok (.invokevirtual 300, 3) := by decide +kernel
theorem dX4_isOutdated_34 : decode cX4_isOutdated 34 = .ok (.ifCond .eq 5, 3) := by decide +kernel
theorem dX4_isOutdated_37 : decode cX4_isOutdated 37 = .ok (.iconst 1, 1) := by decide +kernel
theorem dX4_isOutdated_38 : decode cX4_isOutdated 38 = .ok (.ireturn, 1) := by decide +kernel
theorem dX4_isOutdated_39 : decode cX4_isOutdated 39 = .ok (.iinc 2 1, 3) := by decide +kernel
theorem dX4_isOutdated_42 : decode cX4_isOutdated 42 = .ok (.goto (-34), 3) := by decide +kernel
theorem dX4_isOutdated_45 : decode cX4_isOutdated 45 = .ok (.iconst 0, 1) := by decide +kernel
theorem dX4_isOutdated_46 : decode cX4_isOutdated 46 = .ok (.ireturn, 1) := by decide +kernel
theorem dX4_distance_0 : decode cX4_distance 0 = .ok (.iload_n 0, 1) := by decide +kernel
theorem dX4_distance_1 : decode cX4_distance 1 = .ok (.iload_n 2, 1) := by decide +kernel
theorem dX4_distance_2 : decode cX4_distance 2 = .ok (.isub, 1) := by decide +kernel
theorem dX4_distance_3 : decode cX4_distance 3 = .ok (.invokestatic 303, 3) := by decide +kernel
theorem dX4_distance_6 : decode cX4_distance 6 = .ok (.iload_n 1, 1) := by decide +kernel
theorem dX4_distance_7 : decode cX4_distance 7 = .ok (.iload_n 3, 1) := by decide +kernel
theorem dX4_distance_8 : decode cX4_distance 8 = .ok (.isub, 1) := by decide +kernel
theorem dX4_distance_9 : decode cX4_distance 9 = .ok (.invokestatic 303, 3) := by decide +kernel
theorem dX4_distance_12 : decode cX4_distance 12 = .ok (.iadd, 1) := by decide +kernel
theorem dX4_distance_13 : decode cX4_distance 13 = .ok (.ireturn, 1) := by decide +kernel
set_option maxRecDepth 20000 in
theorem ggX4_targetFrom_Jx4a65c_size_8abf5 : GoodIn wsX4_targetFrom wsJx4a65c_size_8abf5 := goodIn_r _ [7, 8, 76, 77, 78] (by decide +kernel) (by decide +kernel)
set_option maxRecDepth 20000 in
theorem gX4_targetFrom_Jx4a65c_size_8abf5 : GoodIn wsX4_targetFrom (wsV RX4 65 RJx4a65c yJx4a65c_size_8abf5 wsJx4a65c_size_8abf5) := goodIn_app (goodIn_of _ (by decide +kernel)) ggX4_targetFrom_Jx4a65c_size_8abf5
set_option maxRecDepth 20000 in
theorem ggX4_targetFrom_Jx4a65c_get_915e3 : GoodIn wsX4_targetFrom wsJx4a65c_get_915e3 := goodIn_r _ [12, 8, 13, 14, 15, 16, 17, 18, 19, 20, 21, 22, 23, 6, 24, 25, 76, 77, 78] (by decide +kernel) (by decide +kernel)
set_option maxRecDepth 20000 in
theorem gX4_targetFrom_Jx4a65c_get_915e3 : GoodIn wsX4_targetFrom (wsV RX4 272 RJx4a65c yJx4a65c_get_915e3 wsJx4a65c_get_915e3) := goodIn_app (goodIn_of _ (by decide +kernel)) ggX4_targetFrom_Jx4a65c_get_915e3
set_option maxRecDepth 20000 in
theorem ggX4_targetFrom_X3_dearness : GoodIn wsX4_targetFrom wsX3_dearness := goodIn_r _ [30, 31, 32, 33, 34, 29, 35, 36, 37, 38, 39, 40, 41, 42, 43, 79, 80, 81, 82, 83, 84, 85, 86, 87, 88, 89, 90, 91, 92, 93] (by decide +kernel) (by decide +kernel)
set_option maxRecDepth 20000 in
theorem gX4_targetFrom_X3_dearness : GoodIn wsX4_targetFrom (wsV RX4 233 RX3 yX3_dearness wsX3_dearness) := goodIn_app (goodIn_of _ (by decide +kernel)) ggX4_targetFrom_X3_dearness
set_option maxRecDepth 20000 in
theorem ggX4_targetFrom_X3_distanceFrom : GoodIn wsX4_targetFrom wsX3_distanceFrom := goodIn_r _ [47, 48, 49, 50, 51, 52, 53, 54, 29, 55, 56, 57, 58, 59, 60, 61, 62, 63, 64, 65, 66, 67, 68, 69, 79, 80, 81, 82, 83, 84, 85, 86] (by decide +kernel) (by decide +kernel)
set_option maxRecDepth 20000 in
theorem gX4_targetFrom_X3_distanceFrom : GoodIn wsX4_targetFrom (wsV RX4 216 RX3 yX3_distanceFrom wsX3_distanceFrom) := goodIn_app (goodIn_of _ (by decide +kernel)) ggX4_targetFrom_X3_distanceFrom
theorem dX4_targetFrom_0 : decode cX4_targetFrom 0 = .ok (.iconst (-1), 1) := by decide +kernel
theorem dX4_targetFrom_1 : decode cX4_targetFrom 1 = .ok (.istore_n 3, 1) := by decide +kernel
theorem dX4_targetFrom_2 : decode cX4_targetFrom 2 = .ok (.iconst 0, 1) := by decide +kernel
theorem dX4_targetFrom_3 : decode cX4_targetFrom 3 = .ok (.istore 4, 2) := by decide +kernel
theorem dX4_targetFrom_5 : decode cX4_targetFrom 5 = .ok (.iconst 0, 1) := by decide +kernel
theorem dX4_targetFrom_6 : decode cX4_targetFrom 6 = .ok (.istore 5, 2) := by decide +kernel
theorem dX4_targetFrom_8 : decode cX4_targetFrom 8 = .ok (.iload 5, 2) := by decide +kernel
theorem dX4_targetFrom_10 : decode cX4_targetFrom 10 = .ok (.aload_n 0, 1) := by decide +kernel
theorem dX4_targetFrom_11 : decode cX4_targetFrom 11 = .ok (.getfield 10, 3) := by decide +kernel
theorem dX4_targetFrom_14 : decode cX4_targetFrom 14 = .ok (.invokevirtual 65, 3) := by decide +kernel
theorem dX4_targetFrom_17 : decode cX4_targetFrom 17 = .ok (.if_icmp .ge 57, 3) := by decide +kernel
theorem dX4_targetFrom_20 : decode cX4_targetFrom 20 = .ok (.aload_n 0, 1) := by decide +kernel
theorem dX4_targetFrom_21 : decode cX4_targetFrom 21 = .ok (.getfield 10, 3) := by decide +kernel
theorem dX4_targetFrom_24 : decode cX4_targetFrom 24 = .ok (.iload 5, 2) := by decide +kernel
theorem dX4_targetFrom_26 : decode cX4_targetFrom 26 = .ok (.invokevirtual 272, 3) := by decide +kernel
theorem dX4_targetFrom_29 : decode cX4_targetFrom 29 = .ok (.checkcast 78, 3) := by decide +kernel
theorem dX4_targetFrom_32 : decode cX4_targetFrom 32 = .ok (.astore 6, 2) := by decide +kernel
theorem dX4_targetFrom_34 : decode cX4_targetFrom 34 = .ok (.aload 6, 2) := by decide +kernel
theorem dX4_targetFrom_36 : decode cX4_targetFrom 36 = .ok (.invokevirtual 233, 3) := by decide +kernel
theorem dX4_targetFrom_39 : decode cX4_targetFrom 39 = .ok (.bipush 100, 2) := by decide +kernel
theorem dX4_targetFrom_41 : decode cX4_targetFrom 41 = .ok (.imul, 1) := by decide +kernel
theorem dX4_targetFrom_42 : decode cX4_targetFrom 42 = .ok (.iconst 1, 1) := by decide +kernel
theorem dX4_targetFrom_43 : decode cX4_targetFrom 43 = .ok (.aload 6, 2) := by decide +kernel
theorem dX4_targetFrom_45 : decode cX4_targetFrom 45 = .ok (.iload_n 1, 1) := by decide +kernel
theorem dX4_targetFrom_46 : decode cX4_targetFrom 46 = .ok (.iload_n 2, 1) := by decide +kernel
theorem dX4_targetFrom_47 : decode cX4_targetFrom 47 = .ok (.invokevirtual 216, 3) := by decide +kernel
theorem dX4_targetFrom_50 : decode cX4_targetFrom 50 = .ok (.iadd, 1) := by decide +kernel
theorem dX4_targetFrom_51 : decode cX4_targetFrom 51 = .ok (.idiv, 1) := by decide +kernel
theorem dX4_targetFrom_52 : decode cX4_targetFrom 52 = .ok (.istore 7, 2) := by decide +kernel
theorem dX4_targetFrom_54 : decode cX4_targetFrom 54 = .ok (.iload 7, 2) := by decide +kernel
theorem dX4_targetFrom_56 : decode cX4_targetFrom 56 = .ok (.iload 4, 2) := by decide +kernel
theorem dX4_targetFrom_58 : decode cX4_targetFrom 58 = .ok (.if_icmp .le 10, 3) := by decide +kernel
theorem dX4_targetFrom_61 : decode cX4_targetFrom 61 = .ok (.iload 7, 2) := by decide +kernel
theorem dX4_targetFrom_63 : decode cX4_targetFrom 63 = .ok (.istore 4, 2) := by decide +kernel
theorem dX4_targetFrom_65 : decode cX4_targetFrom 65 = .ok (.iload 5, 2) := by decide +kernel
theorem dX4_targetFrom_67 : decode cX4_targetFrom 67 = .ok (.istore_n 3, 1) := by decide +kernel
theorem dX4_targetFrom_68 : decode cX4_targetFrom 68 = .ok (.iinc 5 1, 3) := by decide +kernel
theorem dX4_targetFrom_71 : decode cX4_targetFrom 71 = .ok (.goto (-63), 3) := by decide +kernel
theorem dX4_targetFrom_74 : decode cX4_targetFrom 74 = .ok (.iload_n 3, 1) := by decide +kernel
theorem dX4_targetFrom_75 : decode cX4_targetFrom 75 = .ok (.ireturn, 1) := by decide +kernel
