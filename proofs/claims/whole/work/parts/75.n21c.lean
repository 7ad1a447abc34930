theorem dL_law_925 : decode cL_law 925 = .ok (.aload_n 1, 1) := by decide +kernel
theorem dL_law_926 : decode cL_law 926 = .ok (.aload_n 0, 1) := by decide +kernel
theorem dL_law_927 : decode cL_law 927 = .ok (.iload 4, 2) := by decide +kernel
theorem dL_law_929 : decode cL_law 929 = .ok (.iconst 1, 1) := by decide +kernel
theorem dL_law_930 : decode cL_law 930 = .ok (.iadd, 1) := by decide +kernel
theorem dL_law_931 : decode cL_law 931 = .ok (.iaload, 1) := by decide +kernel
theorem dL_law_932 : decode cL_law 932 = .ok (.aload_n 0, 1) := by decide +kernel
theorem dL_law_933 : decode cL_law 933 = .ok (.iload 4, 2) := by decide +kernel
theorem dL_law_935 : decode cL_law 935 = .ok (.iconst 2, 1) := by decide +kernel
theorem dL_law_936 : decode cL_law 936 = .ok (.iadd, 1) := by decide +kernel
theorem dL_law_937 : decode cL_law 937 = .ok (.iaload, 1) := by decide +kernel
theorem dL_law_938 : decode cL_law 938 = .ok (.aload_n 0, 1) := by decide +kernel
theorem dL_law_939 : decode cL_law 939 = .ok (.iload 4, 2) := by decide +kernel
theorem dL_law_941 : decode cL_law 941 = .ok (.iconst 3, 1) := by decide +kernel
theorem dL_law_942 : decode cL_law 942 = .ok (.iadd, 1) := by decide +kernel
theorem dL_law_943 : decode cL_law 943 = .ok (.iaload, 1) := by decide +kernel
theorem dL_law_944 : decode cL_law 944 = .ok (.aload_n 3, 1) := by decide +kernel
theorem dL_law_945 : decode cL_law 945 = .ok (.invokestatic 144, 3) := by decide +kernel
theorem dL_law_948 : decode cL_law 948 = .ok (.istore 5, 2) := by decide +kernel
theorem dL_law_950 : decode cL_law 950 = .ok (.aload_n 2, 1) := by decide +kernel
theorem dL_law_951 : decode cL_law 951 = .ok (.aload_n 0, 1) := by decide +kernel
theorem dL_law_952 : decode cL_law 952 = .ok (.iload 4, 2) := by decide +kernel
theorem dL_law_954 : decode cL_law 954 = .ok (.iconst 1, 1) := by decide +kernel
theorem dL_law_955 : decode cL_law 955 = .ok (.iadd, 1) := by decide +kernel
theorem dL_law_956 : decode cL_law 956 = .ok (.iaload, 1) := by decide +kernel
theorem dL_law_957 : decode cL_law 957 = .ok (.aload_n 0, 1) := by decide +kernel
theorem dL_law_958 : decode cL_law 958 = .ok (.iload 4, 2) := by decide +kernel
theorem dL_law_960 : decode cL_law 960 = .ok (.iconst 2, 1) := by decide +kernel
theorem dL_law_961 : decode cL_law 961 = .ok (.iadd, 1) := by decide +kernel
theorem dL_law_962 : decode cL_law 962 = .ok (.iaload, 1) := by decide +kernel
theorem dL_law_963 : decode cL_law 963 = .ok (.aload_n 0, 1) := by decide +kernel
theorem dL_law_964 : decode cL_law 964 = .ok (.iload 4, 2) := by decide +kernel
theorem dL_law_966 : decode cL_law 966 = .ok (.iconst 3, 1) := by decide +kernel
theorem dL_law_967 : decode cL_law 967 = .ok (.iadd, 1) := by decide +kernel
theorem dL_law_968 : decode cL_law 968 = .ok (.iaload, 1) := by decide +kernel
theorem dL_law_969 : decode cL_law 969 = .ok (.invokevirtual 147, 3) := by decide +kernel
theorem dL_law_972 : decode cL_law 972 = .ok (.istore 6, 2) := by decide +kernel
theorem dL_law_974 : decode cL_law 974 = .ok (.aload_n 2, 1) := by decide +kernel
theorem dL_law_975 : decode cL_law 975 = .ok (.invokevirtual 101, 3) := by decide +kernel
theorem dL_law_978 : decode cL_law 978 = .ok (.iload 5, 2) := by decide +kernel
theorem dL_law_980 : decode cL_law 980 = .ok (.if_icmp .eq 5, 3) := by decide +kernel
theorem dL_law_985 : decode cL_law 985 = .ok (.iload 5, 2) := by decide +kernel
theorem dL_law_987 : decode cL_law 987 = .ok (.ifCond .ne 15, 3) := by decide +kernel
theorem dL_law_990 : decode cL_law 990 = .ok (.aload_n 3, 1) := by decide +kernel
theorem dL_law_991 : decode cL_law 991 = .ok (.iconst 0, 1) := by decide +kernel
theorem dL_law_992 : decode cL_law 992 = .ok (.laload, 1) := by decide +kernel
theorem dL_law_993 : decode cL_law 993 = .ok (.iload 6, 2) := by decide +kernel
theorem dL_law_995 : decode cL_law 995 = .ok (.i2l, 1) := by decide +kernel
theorem dL_law_996 : decode cL_law 996 = .ok (.lcmp, 1) := by decide +kernel
theorem dL_law_997 : decode cL_law 997 = .ok (.ifCond .eq 5, 3) := by decide +kernel
theorem dL_law_1002 : decode cL_law 1002 = .ok (.goto 858, 3) := by decide +kernel
theorem dL_law_1005 : decode cL_law 1005 = .ok (.aload_n 1, 1) := by decide +kernel
theorem dL_law_1006 : decode cL_law 1006 = .ok (.aload_n 0, 1) := by decide +kernel
theorem dL_law_1007 : decode cL_law 1007 = .ok (.iload 4, 2) := by decide +kernel
theorem dL_law_1009 : decode cL_law 1009 = .ok (.iconst 1, 1) := by decide +kernel
theorem dL_law_1010 : decode cL_law 1010 = .ok (.iadd, 1) := by decide +kernel
theorem dL_law_1011 : decode cL_law 1011 = .ok (.iaload, 1) := by decide +kernel
theorem dL_law_1012 : decode cL_law 1012 = .ok (.aload_n 0, 1) := by decide +kernel
theorem dL_law_1013 : decode cL_law 1013 = .ok (.iload 4, 2) := by decide +kernel
theorem dL_law_1015 : decode cL_law 1015 = .ok (.iconst 2, 1) := by decide +kernel
theorem dL_law_1016 : decode cL_law 1016 = .ok (.iadd, 1) := by decide +kernel
theorem dL_law_1017 : decode cL_law 1017 = .ok (.iaload, 1) := by decide +kernel
theorem dL_law_1018 : decode cL_law 1018 = .ok (.aload_n 0, 1) := by decide +kernel
theorem dL_law_1019 : decode cL_law 1019 = .ok (.iload 4, 2) := by decide +kernel
theorem dL_law_1021 : decode cL_law 1021 = .ok (.iconst 3, 1) := by decide +kernel
theorem dL_law_1022 : decode cL_law 1022 = .ok (.iadd, 1) := by decide +kernel
theorem dL_law_1023 : decode cL_law 1023 = .ok (.iaload, 1) := by decide +kernel
theorem dL_law_1024 : decode cL_law 1024 = .ok (.aload_n 3, 1) := by decide +kernel
theorem dL_law_1025 : decode cL_law 1025 = .ok (.invokestatic 148, 3) := by decide +kernel
theorem dL_law_1028 : decode cL_law 1028 = .ok (.istore 5, 2) := by decide +kernel
theorem dL_law_1030 : decode cL_law 1030 = .ok (.aload_n 2, 1) := by decide +kernel
theorem dL_law_1031 : decode cL_law 1031 = .ok (.aload_n 0, 1) := by decide +kernel
theorem dL_law_1032 : decode cL_law 1032 = .ok (.iload 4, 2) := by decide +kernel
theorem dL_law_1034 : decode cL_law 1034 = .ok (.iconst 1, 1) := by decide +kernel
theorem dL_law_1035 : decode cL_law 1035 = .ok (.iadd, 1) := by decide +kernel
theorem dL_law_1036 : decode cL_law 1036 = .ok (.iaload, 1) := by decide +kernel
theorem dL_law_1037 : decode cL_law 1037 = .ok (.aload_n 0, 1) := by decide +kernel
theorem dL_law_1038 : decode cL_law 1038 = .ok (.iload 4, 2) := by decide +kernel
theorem dL_law_1040 : decode cL_law 1040 = .ok (.iconst 2, 1) := by decide +kernel
theorem dL_law_1041 : decode cL_law 1041 = .ok (.iadd, 1) := by decide +kernel
theorem dL_law_1042 : decode cL_law 1042 = .ok (.iaload, 1) := by decide +kernel
theorem dL_law_1043 : decode cL_law 1043 = .ok (.aload_n 0, 1) := by decide +kernel
theorem dL_law_1044 : decode cL_law 1044 = .ok (.iload 4, 2) := by decide +kernel
theorem dL_law_1046 : decode cL_law 1046 = .ok (.iconst 3, 1) := by decide +kernel
theorem dL_law_1047 : decode cL_law 1047 = .ok (.iadd, 1) := by decide +kernel
theorem dL_law_1048 : decode cL_law 1048 = .ok (.iaload, 1) := by decide +kernel
theorem dL_law_1049 : decode cL_law 1049 = .ok (.invokevirtual 150, 3) := by decide +kernel
theorem dL_law_1052 : decode cL_law 1052 = .ok (.istore 6, 2) := by decide +kernel
theorem dL_law_1054 : decode cL_law 1054 = .ok (.aload_n 2, 1) := by decide +kernel
theorem dL_law_1055 : decode cL_law 1055 = .ok (.invokevirtual 101, 3) := by decide +kernel
theorem dL_law_1058 : decode cL_law 1058 = .ok (.iload 5, 2) := by decide +kernel
theorem dL_law_1060 : decode cL_law 1060 = .ok (.if_icmp .eq 5, 3) := by decide +kernel
theorem dL_law_1065 : decode cL_law 1065 = .ok (.iload 5, 2) := by decide +kernel
theorem dL_law_1067 : decode cL_law 1067 = .ok (.ifCond .ne 15, 3) := by decide +kernel
theorem dL_law_1070 : decode cL_law 1070 = .ok (.aload_n 3, 1) := by decide +kernel
theorem dL_law_1071 : decode cL_law 1071 = .ok (.iconst 0, 1) := by decide +kernel
theorem dL_law_1072 : decode cL_law 1072 = .ok (.laload, 1) := by decide +kernel
theorem dL_law_1073 : decode cL_law 1073 = .ok (.iload 6, 2) := by decide +kernel
theorem dL_law_1075 : decode cL_law 1075 = .ok (.i2l, 1) := by decide +kernel
theorem dL_law_1076 : decode cL_law 1076 = .ok (.lcmp, 1) := by decide +kernel
theorem dL_law_1077 : decode cL_law 1077 = .ok (.ifCond .eq 5, 3) := by decide +kernel
theorem dL_law_1082 : decode cL_law 1082 = .ok (.goto 778, 3) := by decide +kernel
theorem dL_law_1085 : decode cL_law 1085 = .ok (.aload_n 1, 1) := by decide +kernel
theorem dL_law_1086 : decode cL_law 1086 = .ok (.aload_n 0, 1) := by decide +kernel
theorem dL_law_1087 : decode cL_law 1087 = .ok (.iload 4, 2) := by decide +kernel
theorem dL_law_1089 : decode cL_law 1089 = .ok (.iconst 1, 1) := by decide +kernel
theorem dL_law_1090 : decode cL_law 1090 = .ok (.iadd, 1) := by decide +kernel
theorem dL_law_1091 : decode cL_law 1091 = .ok (.iaload, 1) := by decide +kernel
theorem dL_law_1092 : decode cL_law 1092 = .ok (.aload_n 0, 1) := by decide +kernel
theorem dL_law_1093 : decode cL_law 1093 = .ok (.iload 4, 2) := by decide +kernel
theorem dL_law_1095 : decode cL_law 1095 = .ok (.iconst 2, 1) := by decide +kernel
theorem dL_law_1096 : decode cL_law 1096 = .ok (.iadd, 1) := by decide +kernel
theorem dL_law_1097 : decode cL_law 1097 = .ok (.iaload, 1) := by decide +kernel
theorem dL_law_1098 : decode cL_law 1098 = .ok (.aload_n 0, 1) := by decide +kernel
theorem dL_law_1099 : decode cL_law 1099 = .ok (.iload 4, 2) := by decide +kernel
theorem dL_law_1101 : decode cL_law 1101 = .ok (.iconst 3, 1) := by decide +kernel
theorem dL_law_1102 : decode cL_law 1102 = .ok (.iadd, 1) := by decide +kernel
theorem dL_law_1103 : decode cL_law 1103 = .ok (.iaload, 1) := by decide +kernel
theorem dL_law_1104 : decode cL_law 1104 = .ok (.aload_n 3, 1) := by decide +kernel
theorem dL_law_1105 : decode cL_law 1105 = .ok (.invokestatic 151, 3) := by decide +kernel
theorem dL_law_1108 : decode cL_law 1108 = .ok (.istore 5, 2) := by decide +kernel
theorem dL_law_1110 : decode cL_law 1110 = .ok (.aload_n 2, 1) := by decide +kernel
theorem dL_law_1111 : decode cL_law 1111 = .ok (.aload_n 0, 1) := by decide +kernel
theorem dL_law_1112 : decode cL_law 1112 = .ok (.iload 4, 2) := by decide +kernel
theorem dL_law_1114 : decode cL_law 1114 = .ok (.iconst 1, 1) := by decide +kernel
theorem dL_law_1115 : decode cL_law 1115 = .ok (.iadd, 1) := by decide +kernel
theorem dL_law_1116 : decode cL_law 1116 = .ok (.iaload, 1) := by decide +kernel
theorem dL_law_1117 : decode cL_law 1117 = .ok (.aload_n 0, 1) := by decide +kernel
theorem dL_law_1118 : decode cL_law 1118 = .ok (.iload 4, 2) := by decide +kernel
theorem dL_law_1120 : decode cL_law 1120 = .ok (.iconst 2, 1) := by decide +kernel
theorem dL_law_1121 : decode cL_law 1121 = .ok (.iadd, 1) := by decide +kernel
theorem dL_law_1122 : decode cL_law 1122 = .ok (.iaload, 1) := by decide +kernel
theorem dL_law_1123 : decode cL_law 1123 = .ok (.aload_n 0, 1) := by decide +kernel
theorem dL_law_1124 : decode cL_law 1124 = .ok (.iload 4, 2) := by decide +kernel
theorem dL_law_1126 : decode cL_law 1126 = .ok (.iconst 3, 1) := by decide +kernel
theorem dL_law_1127 : decode cL_law 1127 = .ok (.iadd, 1) := by decide +kernel
theorem dL_law_1128 : decode cL_law 1128 = .ok (.iaload, 1) := by decide +kernel
theorem dL_law_1129 : decode cL_law 1129 = .ok (.invokevirtual 153, 3) := by decide +kernel
theorem dL_law_1132 : decode cL_law 1132 = .ok (.istore 6, 2) := by decide +kernel
theorem dL_law_1134 : decode cL_law 1134 = .ok (.aload_n 2, 1) := by decide +kernel
theorem dL_law_1135 : decode cL_law 1135 = .ok (.invokevirtual 101, 3) := by decide +kernel
theorem dL_law_1138 : decode cL_law 1138 = .ok (.iload 5, 2) := by decide +kernel
theorem dL_law_1140 : decode cL_law 1140 = .ok (.if_icmp .eq 5, 3) := by decide +kernel
theorem dL_law_1145 : decode cL_law 1145 = .ok (.iload 5, 2) := by decide +kernel
theorem dL_law_1147 : decode cL_law 1147 = .ok (.ifCond .ne 15, 3) := by decide +kernel
theorem dL_law_1150 : decode cL_law 1150 = .ok (.aload_n 3, 1) := by decide +kernel
theorem dL_law_1151 : decode cL_law 1151 = .ok (.iconst 0, 1) := by decide +kernel
theorem dL_law_1152 : decode cL_law 1152 = .ok (.laload, 1) := by decide +kernel
theorem dL_law_1153 : decode cL_law 1153 = .ok (.iload 6, 2) := by decide +kernel
theorem dL_law_1155 : decode cL_law 1155 = .ok (.i2l, 1) := by decide +kernel
theorem dL_law_1156 : decode cL_law 1156 = .ok (.lcmp, 1) := by decide +kernel
theorem dL_law_1157 : decode cL_law 1157 = .ok (.ifCond .eq 5, 3) := by decide +kernel
theorem dL_law_1162 : decode cL_law 1162 = .ok (.goto 698, 3) := by decide +kernel
theorem dL_law_1165 : decode cL_law 1165 = .ok (.aload_n 1, 1) := by decide +kernel
theorem dL_law_1166 : decode cL_law 1166 = .ok (.aload_n 0, 1) := by decide +kernel
theorem dL_law_1167 : decode cL_law 1167 = .ok (.iload 4, 2) := by decide +kernel
theorem dL_law_1169 : decode cL_law 1169 = .ok (.iconst 1, 1) := by decide +kernel
theorem dL_law_1170 : decode cL_law 1170 = .ok (.iadd, 1) := by decide +kernel
theorem dL_law_1171 : decode cL_law 1171 = .ok (.iaload, 1) := by decide +kernel
theorem dL_law_1172 : decode cL_law 1172 = .ok (.aload_n 0, 1) := by decide +kernel
theorem dL_law_1173 : decode cL_law 1173 = .ok (.iload 4, 2) := by decide +kernel
theorem dL_law_1175 : decode cL_law 1175 = .ok (.iconst 2, 1) := by decide +kernel
theorem dL_law_1176 : decode cL_law 1176 = .ok (.iadd, 1) := by decide +kernel
theorem dL_law_1177 : decode cL_law 1177 = .ok (.iaload, 1) := by decide +kernel
theorem dL_law_1178 : decode cL_law 1178 = .ok (.aload_n 0, 1) := by decide +kernel
theorem dL_law_1179 : decode cL_law 1179 = .ok (.iload 4, 2) := by decide +kernel
theorem dL_law_1181 : decode cL_law 1181 = .ok (.iconst 3, 1) := by decide +kernel
theorem dL_law_1182 : decode cL_law 1182 = .ok (.iadd, 1) := by decide +kernel
theorem dL_law_1183 : decode cL_law 1183 = .ok (.iaload, 1) := by decide +kernel
theorem dL_law_1184 : decode cL_law 1184 = .ok (.aload_n 3, 1) := by decide +kernel
theorem dL_law_1185 : decode cL_law 1185 = .ok (.invokestatic 154, 3) := by decide +kernel
theorem dL_law_1188 : decode cL_law 1188 = .ok (.istore 5, 2) := by decide +kernel
theorem dL_law_1190 : decode cL_law 1190 = .ok (.aload_n 2, 1) := by decide +kernel
theorem dL_law_1191 : decode cL_law 1191 = .ok (.aload_n 0, 1) := by decide +kernel
theorem dL_law_1192 : decode cL_law 1192 = .ok (.iload 4, 2) := by decide +kernel
theorem dL_law_1194 : decode cL_law 1194 = .ok (.iconst 1, 1) := by decide +kernel
theorem dL_law_1195 : decode cL_law 1195 = .ok (.iadd, 1) := by decide +kernel
theorem dL_law_1196 : decode cL_law 1196 = .ok (.iaload, 1) := by decide +kernel
theorem dL_law_1197 : decode cL_law 1197 = .ok (.aload_n 0, 1) := by decide +kernel
theorem dL_law_1198 : decode cL_law 1198 = .ok (.iload 4, 2) := by decide +kernel
theorem dL_law_1200 : decode cL_law 1200 = .ok (.iconst 2, 1) := by decide +kernel
theorem dL_law_1201 : decode cL_law 1201 = .ok (.iadd, 1) := by decide +kernel
theorem dL_law_1202 : decode cL_law 1202 = .ok (.iaload, 1) := by decide +kernel
theorem dL_law_1203 : decode cL_law 1203 = .ok (.aload_n 0, 1) := by decide +kernel
theorem dL_law_1204 : decode cL_law 1204 = .ok (.iload 4, 2) := by decide +kernel
theorem dL_law_1206 : decode cL_law 1206 = .ok (.iconst 3, 1) := by decide +kernel
theorem dL_law_1207 : decode cL_law 1207 = .ok (.iadd, 1) := by decide +kernel
theorem dL_law_1208 : decode cL_law 1208 = .ok (.iaload, 1) := by decide +kernel
theorem dL_law_1209 : decode cL_law 1209 = .ok (.invokevirtual 156, 3) := by decide +kernel
theorem dL_law_1212 : decode cL_law 1212 = .ok (.istore 6, 2) := by decide +kernel
theorem dL_law_1214 : decode cL_law 1214 = .ok (.aload_n 2, 1) := by decide +kernel
theorem dL_law_1215 : decode cL_law 1215 = .ok (.invokevirtual 101, 3) := by decide +kernel
theorem dL_law_1218 : decode cL_law 1218 = .ok (.iload 5, 2) := by decide +kernel
theorem dL_law_1220 : decode cL_law 1220 = .ok (.if_icmp .eq 5, 3) := by decide +kernel
theorem dL_law_1225 : decode cL_law 1225 = .ok (.iload 5, 2) := by decide +kernel
theorem dL_law_1227 : decode cL_law 1227 = .ok (.ifCond .ne 15, 3) := by decide +kernel
theorem dL_law_1230 : decode cL_law 1230 = .ok (.aload_n 3, 1) := by decide +kernel
theorem dL_law_1231 : decode cL_law 1231 = .ok (.iconst 0, 1) := by decide +kernel
theorem dL_law_1232 : decode cL_law 1232 = .ok (.laload, 1) := by decide +kernel
theorem dL_law_1233 : decode cL_law 1233 = .ok (.iload 6, 2) := by decide +kernel
theorem dL_law_1235 : decode cL_law 1235 = .ok (.i2l, 1) := by decide +kernel
theorem dL_law_1236 : decode cL_law 1236 = .ok (.lcmp, 1) := by decide +kernel
theorem dL_law_1237 : decode cL_law 1237 = .ok (.ifCond .eq 5, 3) := by decide +kernel
theorem dL_law_1242 : decode cL_law 1242 = .ok (.goto 618, 3) := by decide +kernel
theorem kl_draw : wl_SW yL_draw cL_draw 6 [(0, 12, 15, 13)] 5 := ⟨wd_c_L_draw, wd_t_L_draw, wd_n_L, by decide, by decide +kernel⟩
set_option maxHeartbeats 4000000 in
set_option maxRecDepth 100000 in
theorem lc_draw {p : Program} {l : Launch} {e : Env} {s : State} {m : MethodId} {below : List Frame} {meth : Method} {c : Code} {b L : Nat} {xs : Nat → Int32} {G : k_G} {o : Nat} {a : Nat → Nat} {w : Nat} {cJ : ClassId} {xa : Nat} {Q : State → Prop} {t : Nat} (hF : CallFix p m c cL_law 7 s #[Value.ref b] wsL_law RL) (hX : ll_F l G o a w cJ s) (hSc : va_X b L xs s s.heap) (hbl : b < s.heap.size) (hL : L ≤ 3072) (ht : 6 * t + 6 ≤ L) (hnext : ll_W p l e s m below meth c b G o a w cJ xa Q (t + 1) t 1860) : ll_W p l e s m below meth c b G o a w cJ xa Q t t 925 := by
  intro mm ad f0 H locs ls hI hN hK h00 hA hS hl
  subst h00
  have hx := hF.1
  have hb := hF.2.1
  have hK1 : sp_K mm < 512 := by omega
  have hbA : ¬ ll_0 s.heap.size b := Nat.not_le.mpr hbl
  refine lv_aload_n hx hb dL_law_925 rfl (lv_at hl 1 rfl) ?_
  refine lv_aload_n hx hb dL_law_926 rfl (lv_at hl 0 rfl) ?_
  refine lv_iload hx hb dL_law_927 (lv_at hl 4 rfl) ?_
  refine lv_iconst (v := 1) hx hb dL_law_929 (by decide) ?_
  refine lv_iadd hx hb dL_law_930 ?_
  refine bo_to (v := nI (6 * t + 1)) (nI_add (6 * t) 1) ?_
  refine va_sld hF.1 hF.2.1 hSc hbl hbA hS (vp_in_nI (by omega) (by omega)) dL_law_931 ?_
  refine bo_to (v := xs (6 * t + 1)) (by rw [nI_clamp (by omega)]) ?_
  refine lv_aload_n hx hb dL_law_932 rfl (lv_at hl 0 rfl) ?_
  refine lv_iload hx hb dL_law_933 (lv_at hl 4 rfl) ?_
  refine lv_iconst (v := 2) hx hb dL_law_935 (by decide) ?_
  refine lv_iadd hx hb dL_law_936 ?_
  refine bo_to (v := nI (6 * t + 2)) (nI_add (6 * t) 2) ?_
  refine va_sld hF.1 hF.2.1 hSc hbl hbA hS (vp_in_nI (by omega) (by omega)) dL_law_937 ?_
  refine bo_to (v := xs (6 * t + 2)) (by rw [nI_clamp (by omega)]) ?_
  refine lv_aload_n hx hb dL_law_938 rfl (lv_at hl 0 rfl) ?_
  refine lv_iload hx hb dL_law_939 (lv_at hl 4 rfl) ?_
  refine lv_iconst (v := 3) hx hb dL_law_941 (by decide) ?_
  refine lv_iadd hx hb dL_law_942 ?_
  refine bo_to (v := nI (6 * t + 3)) (nI_add (6 * t) 3) ?_
  refine va_sld hF.1 hF.2.1 hSc hbl hbA hS (vp_in_nI (by omega) (by omega)) dL_law_943 ?_
  refine bo_to (v := xs (6 * t + 3)) (by rw [nI_clamp (by omega)]) ?_
  refine lv_aload_n hx hb dL_law_944 rfl (lv_at hl 3 rfl) ?_
  refine ll_L (fr := 9) (lo := 158) (mc := 3) (ms := 19) (n := 5) (As := [.ref (ad 0 0), .int (xs (6 * t + 1)), .int (xs (6 * t + 2)), .int (xs (6 * t + 3)), .ref w]) (rest := []) hF (m_L_draw l hX.1 G _ w cJ ad mm f0 (xs (6 * t + 1)) (xs (6 * t + 2)) (xs (6 * t + 3)) hI) kl_draw wd_l_L_144 (by decide) hX hA hS rfl hl.1 rfl (Nat.le_of_ble_eq_true rfl) dL_law_945 (by show 30 + 10 * t + 3 ≤ 601024 ∧ 20000 + 100 * t + 19 ≤ 7293034; omega) (fun r ad1 ct1 f1 H locs hr hA hS => ?_)
  obtain ⟨hr19, hct, h01, hf1⟩ := hr
  replace hct : ct1 = k_C G ad1 (sp_draw mm (xs (6 * t + 1)) (xs (6 * t + 2)) (xs (6 * t + 3))).2 := hct
  subst hct
  replace h01 : ad1 0 0 = ad 0 0 := h01
  replace hr19 : r = (sp_draw mm (xs (6 * t + 1)) (xs (6 * t + 2)) (xs (6 * t + 3))).2 19 0 := hr19
  replace hf1 : r = 0 → f1 0 = Int32.toInt64 (sp_draw mm (xs (6 * t + 1)) (xs (6 * t + 2)) (xs (6 * t + 3))).1 := hf1
  refine lv_istore (lv' := [(5, .int r), (0, .ref b), (1, .ref (ad 0 0)), (2, .ref o), (3, .ref w), (4, .int (nI (6 * t)))]) hx hb dL_law_948 hl (by decide) rfl (fun ls hl => ?_)
  refine lv_aload_n hx hb dL_law_950 rfl (lv_at hl 3 rfl) ?_
  refine lv_aload_n hx hb dL_law_951 rfl (lv_at hl 1 rfl) ?_
  refine lv_iload hx hb dL_law_952 (lv_at hl 5 rfl) ?_
  refine lv_iconst (v := 1) hx hb dL_law_954 (by decide) ?_
  refine lv_iadd hx hb dL_law_955 ?_
  refine bo_to (v := nI (6 * t + 1)) (nI_add (6 * t) 1) ?_
  refine va_sld hF.1 hF.2.1 hSc hbl hbA hS (vp_in_nI (by omega) (by omega)) dL_law_956 ?_
  refine bo_to (v := xs (6 * t + 1)) (by rw [nI_clamp (by omega)]) ?_
  refine lv_aload_n hx hb dL_law_957 rfl (lv_at hl 1 rfl) ?_
  refine lv_iload hx hb dL_law_958 (lv_at hl 5 rfl) ?_
  refine lv_iconst (v := 2) hx hb dL_law_960 (by decide) ?_
  refine lv_iadd hx hb dL_law_961 ?_
  refine bo_to (v := nI (6 * t + 2)) (nI_add (6 * t) 2) ?_
  refine va_sld hF.1 hF.2.1 hSc hbl hbA hS (vp_in_nI (by omega) (by omega)) dL_law_962 ?_
  refine bo_to (v := xs (6 * t + 2)) (by rw [nI_clamp (by omega)]) ?_
  refine lv_aload_n hx hb dL_law_963 rfl (lv_at hl 1 rfl) ?_
  refine lv_iload hx hb dL_law_964 (lv_at hl 5 rfl) ?_
  refine lv_iconst (v := 3) hx hb dL_law_966 (by decide) ?_
  refine lv_iadd hx hb dL_law_967 ?_
  refine bo_to (v := nI (6 * t + 3)) (nI_add (6 * t) 3) ?_
  refine va_sld hF.1 hF.2.1 hSc hbl hbA hS (vp_in_nI (by omega) (by omega)) dL_law_968 ?_
  refine bo_to (v := xs (6 * t + 3)) (by rw [nI_clamp (by omega)]) ?_
  refine ll_R (fr := 3) (lo := 76) (n := 3) (As := [.int (xs (6 * t + 1)), .int (xs (6 * t + 2)), .int (xs (6 * t + 3))]) (rest := []) hF (m_X5_draw l G.1 G.2.1 o a mm hX.2.2.2.2.2.2.1 (xs (6 * t + 1)) (xs (6 * t + 2)) (xs (6 * t + 3)) hI) ke_X5_draw wd_l_L_147 (by decide) hX hA hS rfl hl.1 rfl (Nat.le_of_ble_eq_true rfl) dL_law_969 (by show 30 + 10 * t + 3 ≤ 601024 ∧ 20000 + 100 * t + 19 ≤ 7293034; omega) (fun r2 m2 H locs hr2 hA hS => ?_)
  have e1 : r2 = (sp_draw mm (xs (6 * t + 1)) (xs (6 * t + 2)) (xs (6 * t + 3))).1 := congrArg Prod.fst hr2
  have e2 : m2 = (sp_draw mm (xs (6 * t + 1)) (xs (6 * t + 2)) (xs (6 * t + 3))).2 := congrArg Prod.snd hr2
  have ex : eqx m2 (sp_draw mm (xs (6 * t + 1)) (xs (6 * t + 2)) (xs (6 * t + 3))).2 := by rw [e2]; exact eqx.rf _
  have hN2 : ∀ v, v < 40 → sp_N m2 v := fun v hv => by rw [e2]; exact (NS.draw).N (hN v hv)
  have hIK : IK mm (sp_draw mm (xs (6 * t + 1)) (xs (6 * t + 2)) (xs (6 * t + 3))).2 := IK_draw hI
  have hK2 : sp_K m2 ≤ t + 1 := by
    have h8 := hIK.2
    have h9 : sp_K m2 = sp_K (sp_draw mm (xs (6 * t + 1)) (xs (6 * t + 2)) (xs (6 * t + 3))).2 := by unfold sp_K; rw [ex 10 (by decide) (by decide)]
    omega
  refine lv_istore (lv' := [(6, .int r2), (5, .int r), (0, .ref b), (1, .ref (ad 0 0)), (2, .ref o), (3, .ref w), (4, .int (nI (6 * t)))]) hx hb dL_law_972 hl (by decide) rfl (fun ls hl => ?_)
  refine lv_aload_n hx hb dL_law_974 rfl (lv_at hl 4 rfl) ?_
  refine ll_T hF wd_l_L_101 (by decide) hX hA hl.1 (Nat.le_of_ble_eq_true rfl) dL_law_975 (by show 30 + 10 * t + 3 ≤ 601024 ∧ 20000 + 100 * t + 19 ≤ 7293034; omega) ?_
  have h9 : m2 19 0 = r := by rw [hr19, ex 19 (by decide) (by decide)]
  refine lv_iload hx hb dL_law_978 (lv_at hl 1 rfl) ?_
  refine lv_icmp_eq (tgt := 985) hx hb dL_law_980 (by decide) (fun c980 => ?_) (fun c980 => ?_)
  · skip
    refine lv_iload hx hb dL_law_985 (lv_at hl 1 rfl) ?_
    refine lv_if_ne (tgt := 1002) hx hb dL_law_987 (by decide) (fun cN => ?_) (fun cN => ?_)
    · skip
      refine lv_goto (tgt := 1860) hx hb dL_law_1002 (by decide) ?_
      refine W.widen (k := 30 + 10 * (t + 1)) (n := 20000 + 100 * (t + 1)) (by omega) (by omega) ?_
      exact hnext m2 ad1 f1 H locs ls (Inv_ext ex.sm hIK.1) hN2 hK2 h01 (by rw [kC_x ex]; exact hA) hS (lv_sub hl [2, 3, 4, 5, 6] rfl)
    · skip
      refine lv_aload_n hx hb dL_law_990 rfl (lv_at hl 5 rfl) ?_
      refine lv_iconst (v := 0) hx hb dL_law_991 (by decide) ?_
      refine va_lald hF.1 hF.2.1 hX.2.2.2.1 (mo_one hA.2.2.2) 0 0 rfl rfl (show vp_in (nI 0) 1 from vp_in_nI (by decide) (by decide)) dL_law_992 ?_
      refine bo_toV (v := .long (Int32.toInt64 r2)) (by rw [e1]; exact congrArg Value.long (hf1 cN)) ?_
      refine lv_iload hx hb dL_law_993 (lv_at hl 0 rfl) ?_
      refine lv_i2l (v := Int32.toInt64 r2) hx hb dL_law_995 rfl ?_
      refine W.lcmp hx hb dL_law_996 ?_
      refine bo_to (v := 0) (by simp [lg_cmp]) ?_
      refine lv_if_eq (tgt := 1002) hx hb dL_law_997 (by decide) (fun cE => ?_) (fun cE => ?_)
      · skip
        refine lv_goto (tgt := 1860) hx hb dL_law_1002 (by decide) ?_
        refine W.widen (k := 30 + 10 * (t + 1)) (n := 20000 + 100 * (t + 1)) (by omega) (by omega) ?_
        exact hnext m2 ad1 f1 H locs ls (Inv_ext ex.sm hIK.1) hN2 hK2 h01 (by rw [kC_x ex]; exact hA) hS (lv_sub hl [2, 3, 4, 5, 6] rfl)
      · skip
        exact absurd rfl cE
  · skip
    exact absurd h9 c980
theorem kl_picture : wl_SW yL_picture cL_picture 6 [(0, 12, 15, 13), (0, 12, 19, 17)] 5 := ⟨wd_c_L_picture, wd_t_L_picture, wd_n_L, by decide, by decide +kernel⟩
set_option maxHeartbeats 4000000 in
set_option maxRecDepth 100000 in
theorem lc_picture {p : Program} {l : Launch} {e : Env} {s : State} {m : MethodId} {below : List Frame} {meth : Method} {c : Code} {b L : Nat} {xs : Nat → Int32} {G : k_G} {o : Nat} {a : Nat → Nat} {w : Nat} {cJ : ClassId} {xa : Nat} {Q : State → Prop} {t : Nat} (hF : CallFix p m c cL_law 7 s #[Value.ref b] wsL_law RL) (hX : ll_F l G o a w cJ s) (hSc : va_X b L xs s s.heap) (hbl : b < s.heap.size) (hL : L ≤ 3072) (ht : 6 * t + 6 ≤ L) (hnext : ll_W p l e s m below meth c b G o a w cJ xa Q (t + 1) t 1860) : ll_W p l e s m below meth c b G o a w cJ xa Q t t 1005 := by
  intro mm ad f0 H locs ls hI hN hK h00 hA hS hl
  subst h00
  have hx := hF.1
  have hb := hF.2.1
  have hK1 : sp_K mm < 512 := by omega
  have hbA : ¬ ll_0 s.heap.size b := Nat.not_le.mpr hbl
  refine lv_aload_n hx hb dL_law_1005 rfl (lv_at hl 1 rfl) ?_
  refine lv_aload_n hx hb dL_law_1006 rfl (lv_at hl 0 rfl) ?_
  refine lv_iload hx hb dL_law_1007 (lv_at hl 4 rfl) ?_
  refine lv_iconst (v := 1) hx hb dL_law_1009 (by decide) ?_
  refine lv_iadd hx hb dL_law_1010 ?_
  refine bo_to (v := nI (6 * t + 1)) (nI_add (6 * t) 1) ?_
  refine va_sld hF.1 hF.2.1 hSc hbl hbA hS (vp_in_nI (by omega) (by omega)) dL_law_1011 ?_
  refine bo_to (v := xs (6 * t + 1)) (by rw [nI_clamp (by omega)]) ?_
  refine lv_aload_n hx hb dL_law_1012 rfl (lv_at hl 0 rfl) ?_
  refine lv_iload hx hb dL_law_1013 (lv_at hl 4 rfl) ?_
  refine lv_iconst (v := 2) hx hb dL_law_1015 (by decide) ?_
  refine lv_iadd hx hb dL_law_1016 ?_
  refine bo_to (v := nI (6 * t + 2)) (nI_add (6 * t) 2) ?_
  refine va_sld hF.1 hF.2.1 hSc hbl hbA hS (vp_in_nI (by omega) (by omega)) dL_law_1017 ?_
  refine bo_to (v := xs (6 * t + 2)) (by rw [nI_clamp (by omega)]) ?_
  refine lv_aload_n hx hb dL_law_1018 rfl (lv_at hl 0 rfl) ?_
  refine lv_iload hx hb dL_law_1019 (lv_at hl 4 rfl) ?_
  refine lv_iconst (v := 3) hx hb dL_law_1021 (by decide) ?_
  refine lv_iadd hx hb dL_law_1022 ?_
  refine bo_to (v := nI (6 * t + 3)) (nI_add (6 * t) 3) ?_
  refine va_sld hF.1 hF.2.1 hSc hbl hbA hS (vp_in_nI (by omega) (by omega)) dL_law_1023 ?_
  refine bo_to (v := xs (6 * t + 3)) (by rw [nI_clamp (by omega)]) ?_
  refine lv_aload_n hx hb dL_law_1024 rfl (lv_at hl 3 rfl) ?_
  refine ll_L (fr := 10) (lo := 180) (mc := 3) (ms := 18) (n := 5) (As := [.ref (ad 0 0), .int (xs (6 * t + 1)), .int (xs (6 * t + 2)), .int (xs (6 * t + 3)), .ref w]) (rest := []) hF (m_L_picture l hX.1 G _ w cJ ad mm f0 (xs (6 * t + 1)) (xs (6 * t + 2)) (xs (6 * t + 3))) kl_picture wd_l_L_148 (by decide) hX hA hS rfl hl.1 rfl (Nat.le_of_ble_eq_true rfl) dL_law_1025 (by show 30 + 10 * t + 3 ≤ 601024 ∧ 20000 + 100 * t + 18 ≤ 7293034; omega) (fun r ad1 ct1 f1 H locs hr hA hS => ?_)
  obtain ⟨hr19, hct, h01, hf1⟩ := hr
  replace hct : ct1 = k_C G ad1 (sp_ptr mm (xs (6 * t + 1)) (xs (6 * t + 2)) (xs (6 * t + 3))).2 := hct
  subst hct
  replace h01 : ad1 0 0 = ad 0 0 := h01
  replace hr19 : r = (sp_ptr mm (xs (6 * t + 1)) (xs (6 * t + 2)) (xs (6 * t + 3))).2 19 0 := hr19
  replace hf1 : r = 0 → f1 0 = Int32.toInt64 (sp_ptr mm (xs (6 * t + 1)) (xs (6 * t + 2)) (xs (6 * t + 3))).1 := hf1
  refine lv_istore (lv' := [(5, .int r), (0, .ref b), (1, .ref (ad 0 0)), (2, .ref o), (3, .ref w), (4, .int (nI (6 * t)))]) hx hb dL_law_1028 hl (by decide) rfl (fun ls hl => ?_)
  refine lv_aload_n hx hb dL_law_1030 rfl (lv_at hl 3 rfl) ?_
  refine lv_aload_n hx hb dL_law_1031 rfl (lv_at hl 1 rfl) ?_
  refine lv_iload hx hb dL_law_1032 (lv_at hl 5 rfl) ?_
  refine lv_iconst (v := 1) hx hb dL_law_1034 (by decide) ?_
  refine lv_iadd hx hb dL_law_1035 ?_
  refine bo_to (v := nI (6 * t + 1)) (nI_add (6 * t) 1) ?_
  refine va_sld hF.1 hF.2.1 hSc hbl hbA hS (vp_in_nI (by omega) (by omega)) dL_law_1036 ?_
  refine bo_to (v := xs (6 * t + 1)) (by rw [nI_clamp (by omega)]) ?_
  refine lv_aload_n hx hb dL_law_1037 rfl (lv_at hl 1 rfl) ?_
  refine lv_iload hx hb dL_law_1038 (lv_at hl 5 rfl) ?_
  refine lv_iconst (v := 2) hx hb dL_law_1040 (by decide) ?_
  refine lv_iadd hx hb dL_law_1041 ?_
  refine bo_to (v := nI (6 * t + 2)) (nI_add (6 * t) 2) ?_
  refine va_sld hF.1 hF.2.1 hSc hbl hbA hS (vp_in_nI (by omega) (by omega)) dL_law_1042 ?_
  refine bo_to (v := xs (6 * t + 2)) (by rw [nI_clamp (by omega)]) ?_
  refine lv_aload_n hx hb dL_law_1043 rfl (lv_at hl 1 rfl) ?_
  refine lv_iload hx hb dL_law_1044 (lv_at hl 5 rfl) ?_
  refine lv_iconst (v := 3) hx hb dL_law_1046 (by decide) ?_
  refine lv_iadd hx hb dL_law_1047 ?_
  refine bo_to (v := nI (6 * t + 3)) (nI_add (6 * t) 3) ?_
  refine va_sld hF.1 hF.2.1 hSc hbl hbA hS (vp_in_nI (by omega) (by omega)) dL_law_1048 ?_
  refine bo_to (v := xs (6 * t + 3)) (by rw [nI_clamp (by omega)]) ?_
  refine ll_R (fr := 2) (lo := 47) (n := 3) (As := [.int (xs (6 * t + 1)), .int (xs (6 * t + 2)), .int (xs (6 * t + 3))]) (rest := []) hF (m_X5_picture l G.1 G.2.1 o a mm hX.2.2.2.2.2.2.1 (xs (6 * t + 1)) (xs (6 * t + 2)) (xs (6 * t + 3))) ke_X5_picture wd_l_L_150 (by decide) hX hA hS rfl hl.1 rfl (Nat.le_of_ble_eq_true rfl) dL_law_1049 (by show 30 + 10 * t + 3 ≤ 601024 ∧ 20000 + 100 * t + 18 ≤ 7293034; omega) (fun r2 m2 H locs hr2 hA hS => ?_)
  have e1 : r2 = (sp_ptr mm (xs (6 * t + 1)) (xs (6 * t + 2)) (xs (6 * t + 3))).1 := congrArg Prod.fst hr2
  have e2 : m2 = (sp_ptr mm (xs (6 * t + 1)) (xs (6 * t + 2)) (xs (6 * t + 3))).2 := congrArg Prod.snd hr2
  have ex : eqx m2 (sp_ptr mm (xs (6 * t + 1)) (xs (6 * t + 2)) (xs (6 * t + 3))).2 := by rw [e2]; exact eqx.rf _
  have hN2 : ∀ v, v < 40 → sp_N m2 v := fun v hv => by rw [e2]; exact (NS.ptr).N (hN v hv)
  have hIK : IK mm (sp_ptr mm (xs (6 * t + 1)) (xs (6 * t + 2)) (xs (6 * t + 3))).2 := IK_ptr hI
  have hK2 : sp_K m2 ≤ t + 1 := by
    have h8 := hIK.2
    have h9 : sp_K m2 = sp_K (sp_ptr mm (xs (6 * t + 1)) (xs (6 * t + 2)) (xs (6 * t + 3))).2 := by unfold sp_K; rw [ex 10 (by decide) (by decide)]
    omega
  refine lv_istore (lv' := [(6, .int r2), (5, .int r), (0, .ref b), (1, .ref (ad 0 0)), (2, .ref o), (3, .ref w), (4, .int (nI (6 * t)))]) hx hb dL_law_1052 hl (by decide) rfl (fun ls hl => ?_)
  refine lv_aload_n hx hb dL_law_1054 rfl (lv_at hl 4 rfl) ?_
  refine ll_T hF wd_l_L_101 (by decide) hX hA hl.1 (Nat.le_of_ble_eq_true rfl) dL_law_1055 (by show 30 + 10 * t + 3 ≤ 601024 ∧ 20000 + 100 * t + 18 ≤ 7293034; omega) ?_
  have h9 : m2 19 0 = r := by rw [hr19, ex 19 (by decide) (by decide)]
  refine lv_iload hx hb dL_law_1058 (lv_at hl 1 rfl) ?_
  refine lv_icmp_eq (tgt := 1065) hx hb dL_law_1060 (by decide) (fun c1060 => ?_) (fun c1060 => ?_)
  · skip
    refine lv_iload hx hb dL_law_1065 (lv_at hl 1 rfl) ?_
    refine lv_if_ne (tgt := 1082) hx hb dL_law_1067 (by decide) (fun cN => ?_) (fun cN => ?_)
    · skip
      refine lv_goto (tgt := 1860) hx hb dL_law_1082 (by decide) ?_
      refine W.widen (k := 30 + 10 * (t + 1)) (n := 20000 + 100 * (t + 1)) (by omega) (by omega) ?_
      exact hnext m2 ad1 f1 H locs ls (Inv_ext ex.sm hIK.1) hN2 hK2 h01 (by rw [kC_x ex]; exact hA) hS (lv_sub hl [2, 3, 4, 5, 6] rfl)
    · skip
      refine lv_aload_n hx hb dL_law_1070 rfl (lv_at hl 5 rfl) ?_
      refine lv_iconst (v := 0) hx hb dL_law_1071 (by decide) ?_
      refine va_lald hF.1 hF.2.1 hX.2.2.2.1 (mo_one hA.2.2.2) 0 0 rfl rfl (show vp_in (nI 0) 1 from vp_in_nI (by decide) (by decide)) dL_law_1072 ?_
      refine bo_toV (v := .long (Int32.toInt64 r2)) (by rw [e1]; exact congrArg Value.long (hf1 cN)) ?_
      refine lv_iload hx hb dL_law_1073 (lv_at hl 0 rfl) ?_
      refine lv_i2l (v := Int32.toInt64 r2) hx hb dL_law_1075 rfl ?_
      refine W.lcmp hx hb dL_law_1076 ?_
      refine bo_to (v := 0) (by simp [lg_cmp]) ?_
      refine lv_if_eq (tgt := 1082) hx hb dL_law_1077 (by decide) (fun cE => ?_) (fun cE => ?_)
      · skip
        refine lv_goto (tgt := 1860) hx hb dL_law_1082 (by decide) ?_
        refine W.widen (k := 30 + 10 * (t + 1)) (n := 20000 + 100 * (t + 1)) (by omega) (by omega) ?_
        exact hnext m2 ad1 f1 H locs ls (Inv_ext ex.sm hIK.1) hN2 hK2 h01 (by rw [kC_x ex]; exact hA) hS (lv_sub hl [2, 3, 4, 5, 6] rfl)
      · skip
        exact absurd rfl cE
  · skip
    exact absurd h9 c1060
theorem kl_pictureAnew : wl_SW yL_pictureAnew cL_pictureAnew 6 [(0, 12, 15, 13), (0, 12, 19, 17)] 5 := ⟨wd_c_L_pictureAnew, wd_t_L_pictureAnew, wd_n_L, by decide, by decide +kernel⟩
set_option maxHeartbeats 4000000 in
set_option maxRecDepth 100000 in
theorem lc_pictureAnew {p : Program} {l : Launch} {e : Env} {s : State} {m : MethodId} {below : List Frame} {meth : Method} {c : Code} {b L : Nat} {xs : Nat → Int32} {G : k_G} {o : Nat} {a : Nat → Nat} {w : Nat} {cJ : ClassId} {xa : Nat} {Q : State → Prop} {t : Nat} (hF : CallFix p m c cL_law 7 s #[Value.ref b] wsL_law RL) (hX : ll_F l G o a w cJ s) (hSc : va_X b L xs s s.heap) (hbl : b < s.heap.size) (hL : L ≤ 3072) (ht : 6 * t + 6 ≤ L) (hnext : ll_W p l e s m below meth c b G o a w cJ xa Q (t + 1) t 1860) : ll_W p l e s m below meth c b G o a w cJ xa Q t t 1085 := by
  intro mm ad f0 H locs ls hI hN hK h00 hA hS hl
  subst h00
  have hx := hF.1
  have hb := hF.2.1
  have hK1 : sp_K mm < 512 := by omega
  have hbA : ¬ ll_0 s.heap.size b := Nat.not_le.mpr hbl
  refine lv_aload_n hx hb dL_law_1085 rfl (lv_at hl 1 rfl) ?_
  refine lv_aload_n hx hb dL_law_1086 rfl (lv_at hl 0 rfl) ?_
  refine lv_iload hx hb dL_law_1087 (lv_at hl 4 rfl) ?_
  refine lv_iconst (v := 1) hx hb dL_law_1089 (by decide) ?_
  refine lv_iadd hx hb dL_law_1090 ?_
  refine bo_to (v := nI (6 * t + 1)) (nI_add (6 * t) 1) ?_
  refine va_sld hF.1 hF.2.1 hSc hbl hbA hS (vp_in_nI (by omega) (by omega)) dL_law_1091 ?_
  refine bo_to (v := xs (6 * t + 1)) (by rw [nI_clamp (by omega)]) ?_
  refine lv_aload_n hx hb dL_law_1092 rfl (lv_at hl 0 rfl) ?_
  refine lv_iload hx hb dL_law_1093 (lv_at hl 4 rfl) ?_
  refine lv_iconst (v := 2) hx hb dL_law_1095 (by decide) ?_
  refine lv_iadd hx hb dL_law_1096 ?_
  refine bo_to (v := nI (6 * t + 2)) (nI_add (6 * t) 2) ?_
  refine va_sld hF.1 hF.2.1 hSc hbl hbA hS (vp_in_nI (by omega) (by omega)) dL_law_1097 ?_
  refine bo_to (v := xs (6 * t + 2)) (by rw [nI_clamp (by omega)]) ?_
  refine lv_aload_n hx hb dL_law_1098 rfl (lv_at hl 0 rfl) ?_
  refine lv_iload hx hb dL_law_1099 (lv_at hl 4 rfl) ?_
  refine lv_iconst (v := 3) hx hb dL_law_1101 (by decide) ?_
  refine lv_iadd hx hb dL_law_1102 ?_
  refine bo_to (v := nI (6 * t + 3)) (nI_add (6 * t) 3) ?_
  refine va_sld hF.1 hF.2.1 hSc hbl hbA hS (vp_in_nI (by omega) (by omega)) dL_law_1103 ?_
  refine bo_to (v := xs (6 * t + 3)) (by rw [nI_clamp (by omega)]) ?_
  refine lv_aload_n hx hb dL_law_1104 rfl (lv_at hl 3 rfl) ?_
  refine ll_L (fr := 10) (lo := 181) (mc := 3) (ms := 18) (n := 5) (As := [.ref (ad 0 0), .int (xs (6 * t + 1)), .int (xs (6 * t + 2)), .int (xs (6 * t + 3)), .ref w]) (rest := []) hF (m_L_pictureAnew l hX.1 G _ w cJ ad mm f0 (xs (6 * t + 1)) (xs (6 * t + 2)) (xs (6 * t + 3)) hI) kl_pictureAnew wd_l_L_151 (by decide) hX hA hS rfl hl.1 rfl (Nat.le_of_ble_eq_true rfl) dL_law_1105 (by show 30 + 10 * t + 3 ≤ 601024 ∧ 20000 + 100 * t + 18 ≤ 7293034; omega) (fun r ad1 ct1 f1 H locs hr hA hS => ?_)
  obtain ⟨hr19, hct, h01, hf1⟩ := hr
  replace hct : ct1 = k_C G ad1 (sp_anew mm (xs (6 * t + 1)) (xs (6 * t + 2)) (xs (6 * t + 3))).2 := hct
  subst hct
  replace h01 : ad1 0 0 = ad 0 0 := h01
  replace hr19 : r = (sp_anew mm (xs (6 * t + 1)) (xs (6 * t + 2)) (xs (6 * t + 3))).2 19 0 := hr19
  replace hf1 : r = 0 → f1 0 = Int32.toInt64 (sp_anew mm (xs (6 * t + 1)) (xs (6 * t + 2)) (xs (6 * t + 3))).1 := hf1
  refine lv_istore (lv' := [(5, .int r), (0, .ref b), (1, .ref (ad 0 0)), (2, .ref o), (3, .ref w), (4, .int (nI (6 * t)))]) hx hb dL_law_1108 hl (by decide) rfl (fun ls hl => ?_)
  refine lv_aload_n hx hb dL_law_1110 rfl (lv_at hl 3 rfl) ?_
  refine lv_aload_n hx hb dL_law_1111 rfl (lv_at hl 1 rfl) ?_
  refine lv_iload hx hb dL_law_1112 (lv_at hl 5 rfl) ?_
  refine lv_iconst (v := 1) hx hb dL_law_1114 (by decide) ?_
  refine lv_iadd hx hb dL_law_1115 ?_
  refine bo_to (v := nI (6 * t + 1)) (nI_add (6 * t) 1) ?_
  refine va_sld hF.1 hF.2.1 hSc hbl hbA hS (vp_in_nI (by omega) (by omega)) dL_law_1116 ?_
  refine bo_to (v := xs (6 * t + 1)) (by rw [nI_clamp (by omega)]) ?_
  refine lv_aload_n hx hb dL_law_1117 rfl (lv_at hl 1 rfl) ?_
  refine lv_iload hx hb dL_law_1118 (lv_at hl 5 rfl) ?_
  refine lv_iconst (v := 2) hx hb dL_law_1120 (by decide) ?_
  refine lv_iadd hx hb dL_law_1121 ?_
  refine bo_to (v := nI (6 * t + 2)) (nI_add (6 * t) 2) ?_
  refine va_sld hF.1 hF.2.1 hSc hbl hbA hS (vp_in_nI (by omega) (by omega)) dL_law_1122 ?_
  refine bo_to (v := xs (6 * t + 2)) (by rw [nI_clamp (by omega)]) ?_
  refine lv_aload_n hx hb dL_law_1123 rfl (lv_at hl 1 rfl) ?_
  refine lv_iload hx hb dL_law_1124 (lv_at hl 5 rfl) ?_
  refine lv_iconst (v := 3) hx hb dL_law_1126 (by decide) ?_
  refine lv_iadd hx hb dL_law_1127 ?_
  refine bo_to (v := nI (6 * t + 3)) (nI_add (6 * t) 3) ?_
  refine va_sld hF.1 hF.2.1 hSc hbl hbA hS (vp_in_nI (by omega) (by omega)) dL_law_1128 ?_
  refine bo_to (v := xs (6 * t + 3)) (by rw [nI_clamp (by omega)]) ?_
  refine ll_R (fr := 2) (lo := 52) (n := 3) (As := [.int (xs (6 * t + 1)), .int (xs (6 * t + 2)), .int (xs (6 * t + 3))]) (rest := []) hF (m_X5_pictureAnew l G.1 G.2.1 o a mm hX.2.2.2.2.2.2.1 (xs (6 * t + 1)) (xs (6 * t + 2)) (xs (6 * t + 3)) hI) ke_X5_pictureAnew wd_l_L_153 (by decide) hX hA hS rfl hl.1 rfl (Nat.le_of_ble_eq_true rfl) dL_law_1129 (by show 30 + 10 * t + 3 ≤ 601024 ∧ 20000 + 100 * t + 18 ≤ 7293034; omega) (fun r2 m2 H locs hr2 hA hS => ?_)
  have e1 : r2 = (sp_anew mm (xs (6 * t + 1)) (xs (6 * t + 2)) (xs (6 * t + 3))).1 := congrArg Prod.fst hr2
  have e2 : m2 = (sp_anew mm (xs (6 * t + 1)) (xs (6 * t + 2)) (xs (6 * t + 3))).2 := congrArg Prod.snd hr2
  have ex : eqx m2 (sp_anew mm (xs (6 * t + 1)) (xs (6 * t + 2)) (xs (6 * t + 3))).2 := by rw [e2]; exact eqx.rf _
  have hN2 : ∀ v, v < 40 → sp_N m2 v := fun v hv => by rw [e2]; exact (NS.anew).N (hN v hv)
  have hIK : IK mm (sp_anew mm (xs (6 * t + 1)) (xs (6 * t + 2)) (xs (6 * t + 3))).2 := IK_anew hI
  have hK2 : sp_K m2 ≤ t + 1 := by
    have h8 := hIK.2
    have h9 : sp_K m2 = sp_K (sp_anew mm (xs (6 * t + 1)) (xs (6 * t + 2)) (xs (6 * t + 3))).2 := by unfold sp_K; rw [ex 10 (by decide) (by decide)]
    omega
  refine lv_istore (lv' := [(6, .int r2), (5, .int r), (0, .ref b), (1, .ref (ad 0 0)), (2, .ref o), (3, .ref w), (4, .int (nI (6 * t)))]) hx hb dL_law_1132 hl (by decide) rfl (fun ls hl => ?_)
  refine lv_aload_n hx hb dL_law_1134 rfl (lv_at hl 4 rfl) ?_
  refine ll_T hF wd_l_L_101 (by decide) hX hA hl.1 (Nat.le_of_ble_eq_true rfl) dL_law_1135 (by show 30 + 10 * t + 3 ≤ 601024 ∧ 20000 + 100 * t + 18 ≤ 7293034; omega) ?_
  have h9 : m2 19 0 = r := by rw [hr19, ex 19 (by decide) (by decide)]
  refine lv_iload hx hb dL_law_1138 (lv_at hl 1 rfl) ?_
  refine lv_icmp_eq (tgt := 1145) hx hb dL_law_1140 (by decide) (fun c1140 => ?_) (fun c1140 => ?_)
  · skip
    refine lv_iload hx hb dL_law_1145 (lv_at hl 1 rfl) ?_
    refine lv_if_ne (tgt := 1162) hx hb dL_law_1147 (by decide) (fun cN => ?_) (fun cN => ?_)
    · skip
      refine lv_goto (tgt := 1860) hx hb dL_law_1162 (by decide) ?_
      refine W.widen (k := 30 + 10 * (t + 1)) (n := 20000 + 100 * (t + 1)) (by omega) (by omega) ?_
      exact hnext m2 ad1 f1 H locs ls (Inv_ext ex.sm hIK.1) hN2 hK2 h01 (by rw [kC_x ex]; exact hA) hS (lv_sub hl [2, 3, 4, 5, 6] rfl)
    · skip
      refine lv_aload_n hx hb dL_law_1150 rfl (lv_at hl 5 rfl) ?_
      refine lv_iconst (v := 0) hx hb dL_law_1151 (by decide) ?_
      refine va_lald hF.1 hF.2.1 hX.2.2.2.1 (mo_one hA.2.2.2) 0 0 rfl rfl (show vp_in (nI 0) 1 from vp_in_nI (by decide) (by decide)) dL_law_1152 ?_
      refine bo_toV (v := .long (Int32.toInt64 r2)) (by rw [e1]; exact congrArg Value.long (hf1 cN)) ?_
      refine lv_iload hx hb dL_law_1153 (lv_at hl 0 rfl) ?_
      refine lv_i2l (v := Int32.toInt64 r2) hx hb dL_law_1155 rfl ?_
      refine W.lcmp hx hb dL_law_1156 ?_
      refine bo_to (v := 0) (by simp [lg_cmp]) ?_
      refine lv_if_eq (tgt := 1162) hx hb dL_law_1157 (by decide) (fun cE => ?_) (fun cE => ?_)
      · skip
        refine lv_goto (tgt := 1860) hx hb dL_law_1162 (by decide) ?_
        refine W.widen (k := 30 + 10 * (t + 1)) (n := 20000 + 100 * (t + 1)) (by omega) (by omega) ?_
        exact hnext m2 ad1 f1 H locs ls (Inv_ext ex.sm hIK.1) hN2 hK2 h01 (by rw [kC_x ex]; exact hA) hS (lv_sub hl [2, 3, 4, 5, 6] rfl)
      · skip
        exact absurd rfl cE
  · skip
    exact absurd h9 c1140
theorem kl_tileStamp : wl_SW yL_tileStamp cL_tileStamp 6 [(0, 12, 15, 13)] 5 := ⟨wd_c_L_tileStamp, wd_t_L_tileStamp, wd_n_L, by decide, by decide +kernel⟩
set_option maxHeartbeats 4000000 in
set_option maxRecDepth 100000 in
theorem lc_tileStamp {p : Program} {l : Launch} {e : Env} {s : State} {m : MethodId} {below : List Frame} {meth : Method} {c : Code} {b L : Nat} {xs : Nat → Int32} {G : k_G} {o : Nat} {a : Nat → Nat} {w : Nat} {cJ : ClassId} {xa : Nat} {Q : State → Prop} {t : Nat} (hF : CallFix p m c cL_law 7 s #[Value.ref b] wsL_law RL) (hX : ll_F l G o a w cJ s) (hSc : va_X b L xs s s.heap) (hbl : b < s.heap.size) (hL : L ≤ 3072) (ht : 6 * t + 6 ≤ L) (hnext : ll_W p l e s m below meth c b G o a w cJ xa Q (t + 1) t 1860) : ll_W p l e s m below meth c b G o a w cJ xa Q t t 1165 := by
  intro mm ad f0 H locs ls hI hN hK h00 hA hS hl
  subst h00
  have hx := hF.1
  have hb := hF.2.1
  have hK1 : sp_K mm < 512 := by omega
  have hbA : ¬ ll_0 s.heap.size b := Nat.not_le.mpr hbl
  refine lv_aload_n hx hb dL_law_1165 rfl (lv_at hl 1 rfl) ?_
  refine lv_aload_n hx hb dL_law_1166 rfl (lv_at hl 0 rfl) ?_
  refine lv_iload hx hb dL_law_1167 (lv_at hl 4 rfl) ?_
  refine lv_iconst (v := 1) hx hb dL_law_1169 (by decide) ?_
  refine lv_iadd hx hb dL_law_1170 ?_
  refine bo_to (v := nI (6 * t + 1)) (nI_add (6 * t) 1) ?_
  refine va_sld hF.1 hF.2.1 hSc hbl hbA hS (vp_in_nI (by omega) (by omega)) dL_law_1171 ?_
  refine bo_to (v := xs (6 * t + 1)) (by rw [nI_clamp (by omega)]) ?_
  refine lv_aload_n hx hb dL_law_1172 rfl (lv_at hl 0 rfl) ?_
  refine lv_iload hx hb dL_law_1173 (lv_at hl 4 rfl) ?_
  refine lv_iconst (v := 2) hx hb dL_law_1175 (by decide) ?_
  refine lv_iadd hx hb dL_law_1176 ?_
  refine bo_to (v := nI (6 * t + 2)) (nI_add (6 * t) 2) ?_
  refine va_sld hF.1 hF.2.1 hSc hbl hbA hS (vp_in_nI (by omega) (by omega)) dL_law_1177 ?_
  refine bo_to (v := xs (6 * t + 2)) (by rw [nI_clamp (by omega)]) ?_
  refine lv_aload_n hx hb dL_law_1178 rfl (lv_at hl 0 rfl) ?_
  refine lv_iload hx hb dL_law_1179 (lv_at hl 4 rfl) ?_
  refine lv_iconst (v := 3) hx hb dL_law_1181 (by decide) ?_
  refine lv_iadd hx hb dL_law_1182 ?_
  refine bo_to (v := nI (6 * t + 3)) (nI_add (6 * t) 3) ?_
  refine va_sld hF.1 hF.2.1 hSc hbl hbA hS (vp_in_nI (by omega) (by omega)) dL_law_1183 ?_
  refine bo_to (v := xs (6 * t + 3)) (by rw [nI_clamp (by omega)]) ?_
  refine lv_aload_n hx hb dL_law_1184 rfl (lv_at hl 3 rfl) ?_
  refine ll_L (fr := 9) (lo := 157) (mc := 3) (ms := 18) (n := 5) (As := [.ref (ad 0 0), .int (xs (6 * t + 1)), .int (xs (6 * t + 2)), .int (xs (6 * t + 3)), .ref w]) (rest := []) hF (m_L_tileStamp l hX.1 G _ w cJ ad mm f0 (xs (6 * t + 1)) (xs (6 * t + 2)) (xs (6 * t + 3))) kl_tileStamp wd_l_L_154 (by decide) hX hA hS rfl hl.1 rfl (Nat.le_of_ble_eq_true rfl) dL_law_1185 (by show 30 + 10 * t + 3 ≤ 601024 ∧ 20000 + 100 * t + 18 ≤ 7293034; omega) (fun r ad1 ct1 f1 H locs hr hA hS => ?_)
  obtain ⟨hr19, hct, h01, hf1⟩ := hr
  replace hct : ct1 = k_C G ad1 (sp_tst mm (xs (6 * t + 1)) (xs (6 * t + 2)) (xs (6 * t + 3))).2 := hct
  subst hct
  replace h01 : ad1 0 0 = ad 0 0 := h01
  replace hr19 : r = (sp_tst mm (xs (6 * t + 1)) (xs (6 * t + 2)) (xs (6 * t + 3))).2 19 0 := hr19
  replace hf1 : r = 0 → f1 0 = Int32.toInt64 (sp_tst mm (xs (6 * t + 1)) (xs (6 * t + 2)) (xs (6 * t + 3))).1 := hf1
  refine lv_istore (lv' := [(5, .int r), (0, .ref b), (1, .ref (ad 0 0)), (2, .ref o), (3, .ref w), (4, .int (nI (6 * t)))]) hx hb dL_law_1188 hl (by decide) rfl (fun ls hl => ?_)
  refine lv_aload_n hx hb dL_law_1190 rfl (lv_at hl 3 rfl) ?_
  refine lv_aload_n hx hb dL_law_1191 rfl (lv_at hl 1 rfl) ?_
  refine lv_iload hx hb dL_law_1192 (lv_at hl 5 rfl) ?_
  refine lv_iconst (v := 1) hx hb dL_law_1194 (by decide) ?_
  refine lv_iadd hx hb dL_law_1195 ?_
  refine bo_to (v := nI (6 * t + 1)) (nI_add (6 * t) 1) ?_
  refine va_sld hF.1 hF.2.1 hSc hbl hbA hS (vp_in_nI (by omega) (by omega)) dL_law_1196 ?_
  refine bo_to (v := xs (6 * t + 1)) (by rw [nI_clamp (by omega)]) ?_
  refine lv_aload_n hx hb dL_law_1197 rfl (lv_at hl 1 rfl) ?_
  refine lv_iload hx hb dL_law_1198 (lv_at hl 5 rfl) ?_
  refine lv_iconst (v := 2) hx hb dL_law_1200 (by decide) ?_
  refine lv_iadd hx hb dL_law_1201 ?_
  refine bo_to (v := nI (6 * t + 2)) (nI_add (6 * t) 2) ?_
  refine va_sld hF.1 hF.2.1 hSc hbl hbA hS (vp_in_nI (by omega) (by omega)) dL_law_1202 ?_
  refine bo_to (v := xs (6 * t + 2)) (by rw [nI_clamp (by omega)]) ?_
  refine lv_aload_n hx hb dL_law_1203 rfl (lv_at hl 1 rfl) ?_
  refine lv_iload hx hb dL_law_1204 (lv_at hl 5 rfl) ?_
  refine lv_iconst (v := 3) hx hb dL_law_1206 (by decide) ?_
  refine lv_iadd hx hb dL_law_1207 ?_
  refine bo_to (v := nI (6 * t + 3)) (nI_add (6 * t) 3) ?_
  refine va_sld hF.1 hF.2.1 hSc hbl hbA hS (vp_in_nI (by omega) (by omega)) dL_law_1208 ?_
  refine bo_to (v := xs (6 * t + 3)) (by rw [nI_clamp (by omega)]) ?_
  refine ll_R (fr := 2) (lo := 47) (n := 3) (As := [.int (xs (6 * t + 1)), .int (xs (6 * t + 2)), .int (xs (6 * t + 3))]) (rest := []) hF (m_X5_tileStamp l G.1 G.2.1 o a mm hX.2.2.2.2.2.2.1 (xs (6 * t + 1)) (xs (6 * t + 2)) (xs (6 * t + 3))) ke_X5_tileStamp wd_l_L_156 (by decide) hX hA hS rfl hl.1 rfl (Nat.le_of_ble_eq_true rfl) dL_law_1209 (by show 30 + 10 * t + 3 ≤ 601024 ∧ 20000 + 100 * t + 18 ≤ 7293034; omega) (fun r2 m2 H locs hr2 hA hS => ?_)
  have e1 : r2 = (sp_tst mm (xs (6 * t + 1)) (xs (6 * t + 2)) (xs (6 * t + 3))).1 := congrArg Prod.fst hr2
  have e2 : m2 = (sp_tst mm (xs (6 * t + 1)) (xs (6 * t + 2)) (xs (6 * t + 3))).2 := congrArg Prod.snd hr2
  have ex : eqx m2 (sp_tst mm (xs (6 * t + 1)) (xs (6 * t + 2)) (xs (6 * t + 3))).2 := by rw [e2]; exact eqx.rf _
  have hN2 : ∀ v, v < 40 → sp_N m2 v := fun v hv => by rw [e2]; exact (NS.tst).N (hN v hv)
  have hIK : IK mm (sp_tst mm (xs (6 * t + 1)) (xs (6 * t + 2)) (xs (6 * t + 3))).2 := IK_tst hI
  have hK2 : sp_K m2 ≤ t + 1 := by
    have h8 := hIK.2
    have h9 : sp_K m2 = sp_K (sp_tst mm (xs (6 * t + 1)) (xs (6 * t + 2)) (xs (6 * t + 3))).2 := by unfold sp_K; rw [ex 10 (by decide) (by decide)]
    omega
  refine lv_istore (lv' := [(6, .int r2), (5, .int r), (0, .ref b), (1, .ref (ad 0 0)), (2, .ref o), (3, .ref w), (4, .int (nI (6 * t)))]) hx hb dL_law_1212 hl (by decide) rfl (fun ls hl => ?_)
  refine lv_aload_n hx hb dL_law_1214 rfl (lv_at hl 4 rfl) ?_
  refine ll_T hF wd_l_L_101 (by decide) hX hA hl.1 (Nat.le_of_ble_eq_true rfl) dL_law_1215 (by show 30 + 10 * t + 3 ≤ 601024 ∧ 20000 + 100 * t + 18 ≤ 7293034; omega) ?_
  have h9 : m2 19 0 = r := by rw [hr19, ex 19 (by decide) (by decide)]
  refine lv_iload hx hb dL_law_1218 (lv_at hl 1 rfl) ?_
  refine lv_icmp_eq (tgt := 1225) hx hb dL_law_1220 (by decide) (fun c1220 => ?_) (fun c1220 => ?_)
  · skip
    refine lv_iload hx hb dL_law_1225 (lv_at hl 1 rfl) ?_
    refine lv_if_ne (tgt := 1242) hx hb dL_law_1227 (by decide) (fun cN => ?_) (fun cN => ?_)
    · skip
      refine lv_goto (tgt := 1860) hx hb dL_law_1242 (by decide) ?_
      refine W.widen (k := 30 + 10 * (t + 1)) (n := 20000 + 100 * (t + 1)) (by omega) (by omega) ?_
      exact hnext m2 ad1 f1 H locs ls (Inv_ext ex.sm hIK.1) hN2 hK2 h01 (by rw [kC_x ex]; exact hA) hS (lv_sub hl [2, 3, 4, 5, 6] rfl)
    · skip
      refine lv_aload_n hx hb dL_law_1230 rfl (lv_at hl 5 rfl) ?_
      refine lv_iconst (v := 0) hx hb dL_law_1231 (by decide) ?_
      refine va_lald hF.1 hF.2.1 hX.2.2.2.1 (mo_one hA.2.2.2) 0 0 rfl rfl (show vp_in (nI 0) 1 from vp_in_nI (by decide) (by decide)) dL_law_1232 ?_
      refine bo_toV (v := .long (Int32.toInt64 r2)) (by rw [e1]; exact congrArg Value.long (hf1 cN)) ?_
      refine lv_iload hx hb dL_law_1233 (lv_at hl 0 rfl) ?_
      refine lv_i2l (v := Int32.toInt64 r2) hx hb dL_law_1235 rfl ?_
      refine W.lcmp hx hb dL_law_1236 ?_
      refine bo_to (v := 0) (by simp [lg_cmp]) ?_
      refine lv_if_eq (tgt := 1242) hx hb dL_law_1237 (by decide) (fun cE => ?_) (fun cE => ?_)
      · skip
        refine lv_goto (tgt := 1860) hx hb dL_law_1242 (by decide) ?_
        refine W.widen (k := 30 + 10 * (t + 1)) (n := 20000 + 100 * (t + 1)) (by omega) (by omega) ?_
        exact hnext m2 ad1 f1 H locs ls (Inv_ext ex.sm hIK.1) hN2 hK2 h01 (by rw [kC_x ex]; exact hA) hS (lv_sub hl [2, 3, 4, 5, 6] rfl)
      · skip
        exact absurd rfl cE
  · skip
    exact absurd h9 c1220
