theorem dd_La_1010 : decode code 1010 = .ok (.aload_n 1, 1) := by decide +kernel
theorem dd_La_1011 : decode code 1011 = .ok (.aload_n 0, 1) := by decide +kernel
theorem dd_La_1012 : decode code 1012 = .ok (.iload_n 3, 1) := by decide +kernel
theorem dd_La_1013 : decode code 1013 = .ok (.iconst 1, 1) := by decide +kernel
theorem dd_La_1014 : decode code 1014 = .ok (.iadd, 1) := by decide +kernel
theorem dd_La_1015 : decode code 1015 = .ok (.iaload, 1) := by decide +kernel
theorem dd_La_1016 : decode code 1016 = .ok (.aload_n 0, 1) := by decide +kernel
theorem dd_La_1017 : decode code 1017 = .ok (.iload_n 3, 1) := by decide +kernel
theorem dd_La_1018 : decode code 1018 = .ok (.iconst 2, 1) := by decide +kernel
theorem dd_La_1019 : decode code 1019 = .ok (.iadd, 1) := by decide +kernel
theorem dd_La_1020 : decode code 1020 = .ok (.iaload, 1) := by decide +kernel
theorem dd_La_1021 : decode code 1021 = .ok (.invokevirtual 130, 3) := by decide +kernel
theorem dd_La_1024 : decode code 1024 = .ok (.aload_n 2, 1) := by decide +kernel
theorem dd_La_1025 : decode code 1025 = .ok (.aload_n 0, 1) := by decide +kernel
theorem dd_La_1026 : decode code 1026 = .ok (.iload_n 3, 1) := by decide +kernel
theorem dd_La_1027 : decode code 1027 = .ok (.iconst 1, 1) := by decide +kernel
theorem dd_La_1028 : decode code 1028 = .ok (.iadd, 1) := by decide +kernel
theorem dd_La_1029 : decode code 1029 = .ok (.iaload, 1) := by decide +kernel
theorem dd_La_1030 : decode code 1030 = .ok (.aload_n 0, 1) := by decide +kernel
theorem dd_La_1031 : decode code 1031 = .ok (.iload_n 3, 1) := by decide +kernel
theorem dd_La_1032 : decode code 1032 = .ok (.iconst 2, 1) := by decide +kernel
theorem dd_La_1033 : decode code 1033 = .ok (.iadd, 1) := by decide +kernel
theorem dd_La_1034 : decode code 1034 = .ok (.iaload, 1) := by decide +kernel
theorem dd_La_1035 : decode code 1035 = .ok (.invokevirtual 133, 3) := by decide +kernel
theorem dd_La_1038 : decode code 1038 = .ok (.if_icmp .eq 317, 3) := by decide +kernel
theorem dd_La_1043 : decode code 1043 = .ok (.aload_n 1, 1) := by decide +kernel
theorem dd_La_1044 : decode code 1044 = .ok (.aload_n 0, 1) := by decide +kernel
theorem dd_La_1045 : decode code 1045 = .ok (.iload_n 3, 1) := by decide +kernel
theorem dd_La_1046 : decode code 1046 = .ok (.iconst 1, 1) := by decide +kernel
theorem dd_La_1047 : decode code 1047 = .ok (.iadd, 1) := by decide +kernel
theorem dd_La_1048 : decode code 1048 = .ok (.iaload, 1) := by decide +kernel
theorem dd_La_1049 : decode code 1049 = .ok (.aload_n 0, 1) := by decide +kernel
theorem dd_La_1050 : decode code 1050 = .ok (.iload_n 3, 1) := by decide +kernel
theorem dd_La_1051 : decode code 1051 = .ok (.iconst 2, 1) := by decide +kernel
theorem dd_La_1052 : decode code 1052 = .ok (.iadd, 1) := by decide +kernel
theorem dd_La_1053 : decode code 1053 = .ok (.iaload, 1) := by decide +kernel
theorem dd_La_1054 : decode code 1054 = .ok (.invokevirtual 134, 3) := by decide +kernel
theorem dd_La_1057 : decode code 1057 = .ok (.aload_n 2, 1) := by decide +kernel
theorem dd_La_1058 : decode code 1058 = .ok (.aload_n 0, 1) := by decide +kernel
theorem dd_La_1059 : decode code 1059 = .ok (.iload_n 3, 1) := by decide +kernel
theorem dd_La_1060 : decode code 1060 = .ok (.iconst 1, 1) := by decide +kernel
theorem dd_La_1061 : decode code 1061 = .ok (.iadd, 1) := by decide +kernel
theorem dd_La_1062 : decode code 1062 = .ok (.iaload, 1) := by decide +kernel
theorem dd_La_1063 : decode code 1063 = .ok (.aload_n 0, 1) := by decide +kernel
theorem dd_La_1064 : decode code 1064 = .ok (.iload_n 3, 1) := by decide +kernel
theorem dd_La_1065 : decode code 1065 = .ok (.iconst 2, 1) := by decide +kernel
theorem dd_La_1066 : decode code 1066 = .ok (.iadd, 1) := by decide +kernel
theorem dd_La_1067 : decode code 1067 = .ok (.iaload, 1) := by decide +kernel
theorem dd_La_1068 : decode code 1068 = .ok (.invokevirtual 137, 3) := by decide +kernel
theorem dd_La_1071 : decode code 1071 = .ok (.if_icmp .eq 284, 3) := by decide +kernel
theorem dd_La_1076 : decode code 1076 = .ok (.aload_n 1, 1) := by decide +kernel
theorem dd_La_1077 : decode code 1077 = .ok (.aload_n 0, 1) := by decide +kernel
theorem dd_La_1078 : decode code 1078 = .ok (.iload_n 3, 1) := by decide +kernel
theorem dd_La_1079 : decode code 1079 = .ok (.iconst 1, 1) := by decide +kernel
theorem dd_La_1080 : decode code 1080 = .ok (.iadd, 1) := by decide +kernel
theorem dd_La_1081 : decode code 1081 = .ok (.iaload, 1) := by decide +kernel
theorem dd_La_1082 : decode code 1082 = .ok (.aload_n 0, 1) := by decide +kernel
theorem dd_La_1083 : decode code 1083 = .ok (.iload_n 3, 1) := by decide +kernel
theorem dd_La_1084 : decode code 1084 = .ok (.iconst 2, 1) := by decide +kernel
theorem dd_La_1085 : decode code 1085 = .ok (.iadd, 1) := by decide +kernel
theorem dd_La_1086 : decode code 1086 = .ok (.iaload, 1) := by decide +kernel
theorem dd_La_1087 : decode code 1087 = .ok (.invokevirtual 138, 3) := by decide +kernel
theorem dd_La_1090 : decode code 1090 = .ok (.aload_n 2, 1) := by decide +kernel
theorem dd_La_1091 : decode code 1091 = .ok (.aload_n 0, 1) := by decide +kernel
theorem dd_La_1092 : decode code 1092 = .ok (.iload_n 3, 1) := by decide +kernel
theorem dd_La_1093 : decode code 1093 = .ok (.iconst 1, 1) := by decide +kernel
theorem dd_La_1094 : decode code 1094 = .ok (.iadd, 1) := by decide +kernel
theorem dd_La_1095 : decode code 1095 = .ok (.iaload, 1) := by decide +kernel
theorem dd_La_1096 : decode code 1096 = .ok (.aload_n 0, 1) := by decide +kernel
theorem dd_La_1097 : decode code 1097 = .ok (.iload_n 3, 1) := by decide +kernel
theorem dd_La_1098 : decode code 1098 = .ok (.iconst 2, 1) := by decide +kernel
theorem dd_La_1099 : decode code 1099 = .ok (.iadd, 1) := by decide +kernel
theorem dd_La_1100 : decode code 1100 = .ok (.iaload, 1) := by decide +kernel
theorem dd_La_1101 : decode code 1101 = .ok (.invokevirtual 141, 3) := by decide +kernel
theorem dd_La_1104 : decode code 1104 = .ok (.if_icmp .eq 251, 3) := by decide +kernel
theorem dd_La_1109 : decode code 1109 = .ok (.aload_n 1, 1) := by decide +kernel
theorem dd_La_1110 : decode code 1110 = .ok (.aload_n 0, 1) := by decide +kernel
theorem dd_La_1111 : decode code 1111 = .ok (.iload_n 3, 1) := by decide +kernel
theorem dd_La_1112 : decode code 1112 = .ok (.iconst 1, 1) := by decide +kernel
theorem dd_La_1113 : decode code 1113 = .ok (.iadd, 1) := by decide +kernel
theorem dd_La_1114 : decode code 1114 = .ok (.iaload, 1) := by decide +kernel
theorem dd_La_1115 : decode code 1115 = .ok (.aload_n 0, 1) := by decide +kernel
theorem dd_La_1116 : decode code 1116 = .ok (.iload_n 3, 1) := by decide +kernel
theorem dd_La_1117 : decode code 1117 = .ok (.iconst 2, 1) := by decide +kernel
theorem dd_La_1118 : decode code 1118 = .ok (.iadd, 1) := by decide +kernel
theorem dd_La_1119 : decode code 1119 = .ok (.iaload, 1) := by decide +kernel
theorem dd_La_1120 : decode code 1120 = .ok (.invokevirtual 142, 3) := by decide +kernel
theorem dd_La_1123 : decode code 1123 = .ok (.aload_n 2, 1) := by decide +kernel
theorem dd_La_1124 : decode code 1124 = .ok (.aload_n 0, 1) := by decide +kernel
theorem dd_La_1125 : decode code 1125 = .ok (.iload_n 3, 1) := by decide +kernel
theorem dd_La_1126 : decode code 1126 = .ok (.iconst 1, 1) := by decide +kernel
theorem dd_La_1127 : decode code 1127 = .ok (.iadd, 1) := by decide +kernel
theorem dd_La_1128 : decode code 1128 = .ok (.iaload, 1) := by decide +kernel
theorem dd_La_1129 : decode code 1129 = .ok (.aload_n 0, 1) := by decide +kernel
theorem dd_La_1130 : decode code 1130 = .ok (.iload_n 3, 1) := by decide +kernel
theorem dd_La_1131 : decode code 1131 = .ok (.iconst 2, 1) := by decide +kernel
theorem dd_La_1132 : decode code 1132 = .ok (.iadd, 1) := by decide +kernel
theorem dd_La_1133 : decode code 1133 = .ok (.iaload, 1) := by decide +kernel
theorem dd_La_1134 : decode code 1134 = .ok (.invokevirtual 145, 3) := by decide +kernel
theorem dd_La_1137 : decode code 1137 = .ok (.if_icmp .eq 218, 3) := by decide +kernel
theorem dd_La_1142 : decode code 1142 = .ok (.aload_n 1, 1) := by decide +kernel
theorem dd_La_1143 : decode code 1143 = .ok (.aload_n 0, 1) := by decide +kernel
theorem dd_La_1144 : decode code 1144 = .ok (.iload_n 3, 1) := by decide +kernel
theorem dd_La_1145 : decode code 1145 = .ok (.iconst 1, 1) := by decide +kernel
theorem dd_La_1146 : decode code 1146 = .ok (.iadd, 1) := by decide +kernel
theorem dd_La_1147 : decode code 1147 = .ok (.iaload, 1) := by decide +kernel
theorem dd_La_1148 : decode code 1148 = .ok (.aload_n 0, 1) := by decide +kernel
theorem dd_La_1149 : decode code 1149 = .ok (.iload_n 3, 1) := by decide +kernel
theorem dd_La_1150 : decode code 1150 = .ok (.iconst 2, 1) := by decide +kernel
theorem dd_La_1151 : decode code 1151 = .ok (.iadd, 1) := by decide +kernel
theorem dd_La_1152 : decode code 1152 = .ok (.iaload, 1) := by decide +kernel
theorem dd_La_1153 : decode code 1153 = .ok (.invokevirtual 146, 3) := by decide +kernel
theorem dd_La_1156 : decode code 1156 = .ok (.aload_n 2, 1) := by decide +kernel
theorem dd_La_1157 : decode code 1157 = .ok (.aload_n 0, 1) := by decide +kernel
theorem dd_La_1158 : decode code 1158 = .ok (.iload_n 3, 1) := by decide +kernel
theorem dd_La_1159 : decode code 1159 = .ok (.iconst 1, 1) := by decide +kernel
theorem dd_La_1160 : decode code 1160 = .ok (.iadd, 1) := by decide +kernel
theorem dd_La_1161 : decode code 1161 = .ok (.iaload, 1) := by decide +kernel
theorem dd_La_1162 : decode code 1162 = .ok (.aload_n 0, 1) := by decide +kernel
theorem dd_La_1163 : decode code 1163 = .ok (.iload_n 3, 1) := by decide +kernel
theorem dd_La_1164 : decode code 1164 = .ok (.iconst 2, 1) := by decide +kernel
theorem dd_La_1165 : decode code 1165 = .ok (.iadd, 1) := by decide +kernel
theorem dd_La_1166 : decode code 1166 = .ok (.iaload, 1) := by decide +kernel
theorem dd_La_1167 : decode code 1167 = .ok (.invokevirtual 149, 3) := by decide +kernel
theorem dd_La_1170 : decode code 1170 = .ok (.if_icmp .eq 185, 3) := by decide +kernel
theorem dd_La_1175 : decode code 1175 = .ok (.aload_n 1, 1) := by decide +kernel
theorem dd_La_1176 : decode code 1176 = .ok (.aload_n 0, 1) := by decide +kernel
theorem dd_La_1177 : decode code 1177 = .ok (.iload_n 3, 1) := by decide +kernel
theorem dd_La_1178 : decode code 1178 = .ok (.iconst 1, 1) := by decide +kernel
theorem dd_La_1179 : decode code 1179 = .ok (.iadd, 1) := by decide +kernel
theorem dd_La_1180 : decode code 1180 = .ok (.iaload, 1) := by decide +kernel
theorem dd_La_1181 : decode code 1181 = .ok (.aload_n 0, 1) := by decide +kernel
theorem dd_La_1182 : decode code 1182 = .ok (.iload_n 3, 1) := by decide +kernel
theorem dd_La_1183 : decode code 1183 = .ok (.iconst 2, 1) := by decide +kernel
theorem dd_La_1184 : decode code 1184 = .ok (.iadd, 1) := by decide +kernel
theorem dd_La_1185 : decode code 1185 = .ok (.iaload, 1) := by decide +kernel
theorem dd_La_1186 : decode code 1186 = .ok (.invokevirtual 150, 3) := by decide +kernel
theorem dd_La_1189 : decode code 1189 = .ok (.aload_n 2, 1) := by decide +kernel
theorem dd_La_1190 : decode code 1190 = .ok (.aload_n 0, 1) := by decide +kernel
theorem dd_La_1191 : decode code 1191 = .ok (.iload_n 3, 1) := by decide +kernel
theorem dd_La_1192 : decode code 1192 = .ok (.iconst 1, 1) := by decide +kernel
theorem dd_La_1193 : decode code 1193 = .ok (.iadd, 1) := by decide +kernel
theorem dd_La_1194 : decode code 1194 = .ok (.iaload, 1) := by decide +kernel
theorem dd_La_1195 : decode code 1195 = .ok (.aload_n 0, 1) := by decide +kernel
theorem dd_La_1196 : decode code 1196 = .ok (.iload_n 3, 1) := by decide +kernel
theorem dd_La_1197 : decode code 1197 = .ok (.iconst 2, 1) := by decide +kernel
theorem dd_La_1198 : decode code 1198 = .ok (.iadd, 1) := by decide +kernel
theorem dd_La_1199 : decode code 1199 = .ok (.iaload, 1) := by decide +kernel
theorem dd_La_1200 : decode code 1200 = .ok (.invokevirtual 153, 3) := by decide +kernel
theorem dd_La_1203 : decode code 1203 = .ok (.if_icmp .eq 152, 3) := by decide +kernel
theorem dd_La_1208 : decode code 1208 = .ok (.aload_n 1, 1) := by decide +kernel
theorem dd_La_1209 : decode code 1209 = .ok (.aload_n 0, 1) := by decide +kernel
theorem dd_La_1210 : decode code 1210 = .ok (.iload_n 3, 1) := by decide +kernel
theorem dd_La_1211 : decode code 1211 = .ok (.iconst 1, 1) := by decide +kernel
theorem dd_La_1212 : decode code 1212 = .ok (.iadd, 1) := by decide +kernel
theorem dd_La_1213 : decode code 1213 = .ok (.iaload, 1) := by decide +kernel
theorem dd_La_1214 : decode code 1214 = .ok (.aload_n 0, 1) := by decide +kernel
theorem dd_La_1215 : decode code 1215 = .ok (.iload_n 3, 1) := by decide +kernel
theorem dd_La_1216 : decode code 1216 = .ok (.iconst 2, 1) := by decide +kernel
theorem dd_La_1217 : decode code 1217 = .ok (.iadd, 1) := by decide +kernel
theorem dd_La_1218 : decode code 1218 = .ok (.iaload, 1) := by decide +kernel
theorem dd_La_1219 : decode code 1219 = .ok (.invokevirtual 154, 3) := by decide +kernel
theorem dd_La_1222 : decode code 1222 = .ok (.aload_n 2, 1) := by decide +kernel
theorem dd_La_1223 : decode code 1223 = .ok (.aload_n 0, 1) := by decide +kernel
theorem dd_La_1224 : decode code 1224 = .ok (.iload_n 3, 1) := by decide +kernel
theorem dd_La_1225 : decode code 1225 = .ok (.iconst 1, 1) := by decide +kernel
theorem dd_La_1226 : decode code 1226 = .ok (.iadd, 1) := by decide +kernel
theorem dd_La_1227 : decode code 1227 = .ok (.iaload, 1) := by decide +kernel
theorem dd_La_1228 : decode code 1228 = .ok (.aload_n 0, 1) := by decide +kernel
theorem dd_La_1229 : decode code 1229 = .ok (.iload_n 3, 1) := by decide +kernel
theorem dd_La_1230 : decode code 1230 = .ok (.iconst 2, 1) := by decide +kernel
theorem dd_La_1231 : decode code 1231 = .ok (.iadd, 1) := by decide +kernel
theorem dd_La_1232 : decode code 1232 = .ok (.iaload, 1) := by decide +kernel
theorem dd_La_1233 : decode code 1233 = .ok (.invokevirtual 157, 3) := by decide +kernel
theorem dd_La_1236 : decode code 1236 = .ok (.if_icmp .eq 119, 3) := by decide +kernel
set_option maxRecDepth 100000 in
set_option maxHeartbeats 4000000 in
theorem la_kinds {X : gf_X} {E : gf_E} {Q : State → Prop} {b L : Nat} {xs : Nat → Int32} (C : gf_C X E code 4 "GuardFiguresLaw" room_1) (S : la_S X E b L xs) {μ : gf_M} {i : Int} (hI : gf_I μ) (hi : 0 ≤ i ∧ i + 6 ≤ (L : Int)) (kk : ∀ μ' : gf_M, gf_I μ' → gf_G X E Q 4 la_φ μ' 1355 (la_lv E b i) []) : gf_G X E Q 4 la_φ μ 1010 (la_lv E b i) [] := by
  show gf_G X E Q 4 la_φ μ 1010 [(3, .int (gf_i i)), (2, .ref (gf_ad E 65)), (1, .ref (gf_ad E 0)), (0, .ref b)] []
  refine gf_aload_n C dd_La_1010 2 rfl ?_
  refine gf_aload_n C dd_La_1011 3 rfl ?_
  refine gf_iload_n C dd_La_1012 0 rfl ?_
  refine gf_iconst C dd_La_1013 ?_
  refine gf_iadd C dd_La_1014 ?_
  refine gf_sld C S dd_La_1015 (by omega) ?_
  refine gf_aload_n C dd_La_1016 3 rfl ?_
  refine gf_iload_n C dd_La_1017 0 rfl ?_
  refine gf_iconst C dd_La_1018 ?_
  refine gf_iadd C dd_La_1019 ?_
  refine gf_sld C S dd_La_1020 (by omega) ?_
  refine gf_callVi2 (st := []) (As := [.int (gf_i (gf_sx xs (i + 1))), .int (gf_i (gf_sx xs (i + 2)))]) C wk_La_130 gf_cl6 (show gf_is 81 0 0 6 17 by decide) (ct_Fi_kinds (gf_xl X) E (gf_sx xs (i + 1)) (gf_sx xs (i + 2)) μ (gf_sx_R _ _) (gf_sx_R _ _) hI.c7 hI.G hI.s hI.F hI.rw) rfl ⟨rfl, rfl, Nat.le_of_ble_eq_true rfl, Nat.le_of_ble_eq_true rfl⟩ (Nat.le_of_ble_eq_true rfl) rfl dd_La_1021 (fun q1 μ1 hR1 hp1 => ?_)
  refine gf_aload_n C dd_La_1024 1 rfl ?_
  refine gf_aload_n C dd_La_1025 3 rfl ?_
  refine gf_iload_n C dd_La_1026 0 rfl ?_
  refine gf_iconst C dd_La_1027 ?_
  refine gf_iadd C dd_La_1028 ?_
  refine gf_sld C S dd_La_1029 (by omega) ?_
  refine gf_aload_n C dd_La_1030 3 rfl ?_
  refine gf_iload_n C dd_La_1031 0 rfl ?_
  refine gf_iconst C dd_La_1032 ?_
  refine gf_iadd C dd_La_1033 ?_
  refine gf_sld C S dd_La_1034 (by omega) ?_
  have v := vw_kinds (i := gf_sx xs (i + 1)) (r := gf_sx xs (i + 2)) hI hp1
  refine gf_callVi2 (st := [.int (gf_i q1)]) (As := [.int (gf_i (gf_sx xs (i + 1))), .int (gf_i (gf_sx xs (i + 2)))]) C wk_La_133 gf_cl7 (show gf_is 81 65 0 7 26 by decide) (ct_Mo_kinds (gf_xl X) E (gf_sx xs (i + 1)) (gf_sx xs (i + 2)) μ1 (gf_sx_R _ _) (gf_sx_R _ _) (hI.ok v) (hI.rs v)) rfl ⟨rfl, rfl, Nat.le_of_ble_eq_true rfl, Nat.le_of_ble_eq_true rfl⟩ (Nat.le_of_ble_eq_true rfl) rfl dd_La_1035 (fun q2 μ2 hR2 hp2 => ?_)
  have hst := st_kinds (i := gf_sx xs (i + 1)) (r := gf_sx xs (i + 2)) hI hp1 hp2
  exact gf_icmp_eq 1355 C dd_La_1038 (by decide) hR1 hR2 (fun _ => kk μ2 hst.2) (fun h => absurd hst.1 h)
set_option maxRecDepth 100000 in
set_option maxHeartbeats 4000000 in
theorem la_firsts {X : gf_X} {E : gf_E} {Q : State → Prop} {b L : Nat} {xs : Nat → Int32} (C : gf_C X E code 4 "GuardFiguresLaw" room_1) (S : la_S X E b L xs) {μ : gf_M} {i : Int} (hI : gf_I μ) (hi : 0 ≤ i ∧ i + 6 ≤ (L : Int)) (kk : ∀ μ' : gf_M, gf_I μ' → gf_G X E Q 4 la_φ μ' 1355 (la_lv E b i) []) : gf_G X E Q 4 la_φ μ 1043 (la_lv E b i) [] := by
  show gf_G X E Q 4 la_φ μ 1043 [(3, .int (gf_i i)), (2, .ref (gf_ad E 65)), (1, .ref (gf_ad E 0)), (0, .ref b)] []
  refine gf_aload_n C dd_La_1043 2 rfl ?_
  refine gf_aload_n C dd_La_1044 3 rfl ?_
  refine gf_iload_n C dd_La_1045 0 rfl ?_
  refine gf_iconst C dd_La_1046 ?_
  refine gf_iadd C dd_La_1047 ?_
  refine gf_sld C S dd_La_1048 (by omega) ?_
  refine gf_aload_n C dd_La_1049 3 rfl ?_
  refine gf_iload_n C dd_La_1050 0 rfl ?_
  refine gf_iconst C dd_La_1051 ?_
  refine gf_iadd C dd_La_1052 ?_
  refine gf_sld C S dd_La_1053 (by omega) ?_
  refine gf_callVi2 (st := []) (As := [.int (gf_i (gf_sx xs (i + 1))), .int (gf_i (gf_sx xs (i + 2)))]) C wk_La_134 gf_cl6 (show gf_is 81 0 0 6 17 by decide) (ct_Fi_firsts (gf_xl X) E (gf_sx xs (i + 1)) (gf_sx xs (i + 2)) μ (gf_sx_R _ _) (gf_sx_R _ _) hI.c7 hI.G hI.s hI.F hI.rw) rfl ⟨rfl, rfl, Nat.le_of_ble_eq_true rfl, Nat.le_of_ble_eq_true rfl⟩ (Nat.le_of_ble_eq_true rfl) rfl dd_La_1054 (fun q1 μ1 hR1 hp1 => ?_)
  refine gf_aload_n C dd_La_1057 1 rfl ?_
  refine gf_aload_n C dd_La_1058 3 rfl ?_
  refine gf_iload_n C dd_La_1059 0 rfl ?_
  refine gf_iconst C dd_La_1060 ?_
  refine gf_iadd C dd_La_1061 ?_
  refine gf_sld C S dd_La_1062 (by omega) ?_
  refine gf_aload_n C dd_La_1063 3 rfl ?_
  refine gf_iload_n C dd_La_1064 0 rfl ?_
  refine gf_iconst C dd_La_1065 ?_
  refine gf_iadd C dd_La_1066 ?_
  refine gf_sld C S dd_La_1067 (by omega) ?_
  have v := vw_firsts (i := gf_sx xs (i + 1)) (r := gf_sx xs (i + 2)) hI hp1
  refine gf_callVi2 (st := [.int (gf_i q1)]) (As := [.int (gf_i (gf_sx xs (i + 1))), .int (gf_i (gf_sx xs (i + 2)))]) C wk_La_137 gf_cl7 (show gf_is 81 65 0 7 26 by decide) (ct_Mo_firsts (gf_xl X) E (gf_sx xs (i + 1)) (gf_sx xs (i + 2)) μ1 (gf_sx_R _ _) (gf_sx_R _ _) (hI.ok v) (hI.rs v)) rfl ⟨rfl, rfl, Nat.le_of_ble_eq_true rfl, Nat.le_of_ble_eq_true rfl⟩ (Nat.le_of_ble_eq_true rfl) rfl dd_La_1068 (fun q2 μ2 hR2 hp2 => ?_)
  have hst := st_firsts (i := gf_sx xs (i + 1)) (r := gf_sx xs (i + 2)) hI hp1 hp2
  exact gf_icmp_eq 1355 C dd_La_1071 (by decide) hR1 hR2 (fun _ => kk μ2 hst.2) (fun h => absurd hst.1 h)
set_option maxRecDepth 100000 in
set_option maxHeartbeats 4000000 in
theorem la_test {X : gf_X} {E : gf_E} {Q : State → Prop} {b L : Nat} {xs : Nat → Int32} (C : gf_C X E code 4 "GuardFiguresLaw" room_1) (S : la_S X E b L xs) {μ : gf_M} {i : Int} (hI : gf_I μ) (hi : 0 ≤ i ∧ i + 6 ≤ (L : Int)) (kk : ∀ μ' : gf_M, gf_I μ' → gf_G X E Q 4 la_φ μ' 1355 (la_lv E b i) []) : gf_G X E Q 4 la_φ μ 1076 (la_lv E b i) [] := by
  show gf_G X E Q 4 la_φ μ 1076 [(3, .int (gf_i i)), (2, .ref (gf_ad E 65)), (1, .ref (gf_ad E 0)), (0, .ref b)] []
  refine gf_aload_n C dd_La_1076 2 rfl ?_
  refine gf_aload_n C dd_La_1077 3 rfl ?_
  refine gf_iload_n C dd_La_1078 0 rfl ?_
  refine gf_iconst C dd_La_1079 ?_
  refine gf_iadd C dd_La_1080 ?_
  refine gf_sld C S dd_La_1081 (by omega) ?_
  refine gf_aload_n C dd_La_1082 3 rfl ?_
  refine gf_iload_n C dd_La_1083 0 rfl ?_
  refine gf_iconst C dd_La_1084 ?_
  refine gf_iadd C dd_La_1085 ?_
  refine gf_sld C S dd_La_1086 (by omega) ?_
  refine gf_callVi2 (st := []) (As := [.int (gf_i (gf_sx xs (i + 1))), .int (gf_i (gf_sx xs (i + 2)))]) C wk_La_138 gf_cl6 (show gf_is 81 0 0 6 17 by decide) (ct_Fi_test (gf_xl X) E (gf_sx xs (i + 1)) (gf_sx xs (i + 2)) μ (gf_sx_R _ _) (gf_sx_R _ _) hI.c7 hI.G hI.s hI.F hI.rw) rfl ⟨rfl, rfl, Nat.le_of_ble_eq_true rfl, Nat.le_of_ble_eq_true rfl⟩ (Nat.le_of_ble_eq_true rfl) rfl dd_La_1087 (fun q1 μ1 hR1 hp1 => ?_)
  refine gf_aload_n C dd_La_1090 1 rfl ?_
  refine gf_aload_n C dd_La_1091 3 rfl ?_
  refine gf_iload_n C dd_La_1092 0 rfl ?_
  refine gf_iconst C dd_La_1093 ?_
  refine gf_iadd C dd_La_1094 ?_
  refine gf_sld C S dd_La_1095 (by omega) ?_
  refine gf_aload_n C dd_La_1096 3 rfl ?_
  refine gf_iload_n C dd_La_1097 0 rfl ?_
  refine gf_iconst C dd_La_1098 ?_
  refine gf_iadd C dd_La_1099 ?_
  refine gf_sld C S dd_La_1100 (by omega) ?_
  have v := vw_test (i := gf_sx xs (i + 1)) (r := gf_sx xs (i + 2)) hI hp1
  refine gf_callVi2 (st := [.int (gf_i q1)]) (As := [.int (gf_i (gf_sx xs (i + 1))), .int (gf_i (gf_sx xs (i + 2)))]) C wk_La_141 gf_cl7 (show gf_is 81 65 0 7 26 by decide) (ct_Mo_test (gf_xl X) E (gf_sx xs (i + 1)) (gf_sx xs (i + 2)) μ1 (gf_sx_R _ _) (gf_sx_R _ _) (hI.ok v) (hI.rs v)) rfl ⟨rfl, rfl, Nat.le_of_ble_eq_true rfl, Nat.le_of_ble_eq_true rfl⟩ (Nat.le_of_ble_eq_true rfl) rfl dd_La_1101 (fun q2 μ2 hR2 hp2 => ?_)
  have hst := st_test (i := gf_sx xs (i + 1)) (r := gf_sx xs (i + 2)) hI hp1 hp2
  exact gf_icmp_eq 1355 C dd_La_1104 (by decide) hR1 hR2 (fun _ => kk μ2 hst.2) (fun h => absurd hst.1 h)
set_option maxRecDepth 100000 in
set_option maxHeartbeats 4000000 in
theorem la_duel {X : gf_X} {E : gf_E} {Q : State → Prop} {b L : Nat} {xs : Nat → Int32} (C : gf_C X E code 4 "GuardFiguresLaw" room_1) (S : la_S X E b L xs) {μ : gf_M} {i : Int} (hI : gf_I μ) (hi : 0 ≤ i ∧ i + 6 ≤ (L : Int)) (kk : ∀ μ' : gf_M, gf_I μ' → gf_G X E Q 4 la_φ μ' 1355 (la_lv E b i) []) : gf_G X E Q 4 la_φ μ 1109 (la_lv E b i) [] := by
  show gf_G X E Q 4 la_φ μ 1109 [(3, .int (gf_i i)), (2, .ref (gf_ad E 65)), (1, .ref (gf_ad E 0)), (0, .ref b)] []
  refine gf_aload_n C dd_La_1109 2 rfl ?_
  refine gf_aload_n C dd_La_1110 3 rfl ?_
  refine gf_iload_n C dd_La_1111 0 rfl ?_
  refine gf_iconst C dd_La_1112 ?_
  refine gf_iadd C dd_La_1113 ?_
  refine gf_sld C S dd_La_1114 (by omega) ?_
  refine gf_aload_n C dd_La_1115 3 rfl ?_
  refine gf_iload_n C dd_La_1116 0 rfl ?_
  refine gf_iconst C dd_La_1117 ?_
  refine gf_iadd C dd_La_1118 ?_
  refine gf_sld C S dd_La_1119 (by omega) ?_
  refine gf_callVi2 (st := []) (As := [.int (gf_i (gf_sx xs (i + 1))), .int (gf_i (gf_sx xs (i + 2)))]) C wk_La_142 gf_cl6 (show gf_is 81 0 0 6 17 by decide) (ct_Fi_duel (gf_xl X) E (gf_sx xs (i + 1)) (gf_sx xs (i + 2)) μ (gf_sx_R _ _) (gf_sx_R _ _) hI.c7 hI.G hI.s hI.F) rfl ⟨rfl, rfl, Nat.le_of_ble_eq_true rfl, Nat.le_of_ble_eq_true rfl⟩ (Nat.le_of_ble_eq_true rfl) rfl dd_La_1120 (fun q1 μ1 hR1 hp1 => ?_)
  refine gf_aload_n C dd_La_1123 1 rfl ?_
  refine gf_aload_n C dd_La_1124 3 rfl ?_
  refine gf_iload_n C dd_La_1125 0 rfl ?_
  refine gf_iconst C dd_La_1126 ?_
  refine gf_iadd C dd_La_1127 ?_
  refine gf_sld C S dd_La_1128 (by omega) ?_
  refine gf_aload_n C dd_La_1129 3 rfl ?_
  refine gf_iload_n C dd_La_1130 0 rfl ?_
  refine gf_iconst C dd_La_1131 ?_
  refine gf_iadd C dd_La_1132 ?_
  refine gf_sld C S dd_La_1133 (by omega) ?_
  have v := vw_duel (i := gf_sx xs (i + 1)) (n := gf_sx xs (i + 2)) hI hp1
  refine gf_callVi2 (st := [.int (gf_i q1)]) (As := [.int (gf_i (gf_sx xs (i + 1))), .int (gf_i (gf_sx xs (i + 2)))]) C wk_La_145 gf_cl7 (show gf_is 81 65 0 7 26 by decide) (ct_Mo_duel (gf_xl X) E (gf_sx xs (i + 1)) (gf_sx xs (i + 2)) μ1 (gf_sx_R _ _) (gf_sx_R _ _) (hI.ok v)) rfl ⟨rfl, rfl, Nat.le_of_ble_eq_true rfl, Nat.le_of_ble_eq_true rfl⟩ (Nat.le_of_ble_eq_true rfl) rfl dd_La_1134 (fun q2 μ2 hR2 hp2 => ?_)
  have hst := st_duel (i := gf_sx xs (i + 1)) (n := gf_sx xs (i + 2)) hI hp1 hp2
  exact gf_icmp_eq 1355 C dd_La_1137 (by decide) hR1 hR2 (fun _ => kk μ2 hst.2) (fun h => absurd hst.1 h)
set_option maxRecDepth 100000 in
set_option maxHeartbeats 4000000 in
theorem la_odds {X : gf_X} {E : gf_E} {Q : State → Prop} {b L : Nat} {xs : Nat → Int32} (C : gf_C X E code 4 "GuardFiguresLaw" room_1) (S : la_S X E b L xs) {μ : gf_M} {i : Int} (hI : gf_I μ) (hi : 0 ≤ i ∧ i + 6 ≤ (L : Int)) (kk : ∀ μ' : gf_M, gf_I μ' → gf_G X E Q 4 la_φ μ' 1355 (la_lv E b i) []) : gf_G X E Q 4 la_φ μ 1142 (la_lv E b i) [] := by
  show gf_G X E Q 4 la_φ μ 1142 [(3, .int (gf_i i)), (2, .ref (gf_ad E 65)), (1, .ref (gf_ad E 0)), (0, .ref b)] []
  refine gf_aload_n C dd_La_1142 2 rfl ?_
  refine gf_aload_n C dd_La_1143 3 rfl ?_
  refine gf_iload_n C dd_La_1144 0 rfl ?_
  refine gf_iconst C dd_La_1145 ?_
  refine gf_iadd C dd_La_1146 ?_
  refine gf_sld C S dd_La_1147 (by omega) ?_
  refine gf_aload_n C dd_La_1148 3 rfl ?_
  refine gf_iload_n C dd_La_1149 0 rfl ?_
  refine gf_iconst C dd_La_1150 ?_
  refine gf_iadd C dd_La_1151 ?_
  refine gf_sld C S dd_La_1152 (by omega) ?_
  refine gf_callVi2 (st := []) (As := [.int (gf_i (gf_sx xs (i + 1))), .int (gf_i (gf_sx xs (i + 2)))]) C wk_La_146 gf_cl6 (show gf_is 81 0 0 6 17 by decide) (ct_Fi_odds (gf_xl X) E (gf_sx xs (i + 1)) (gf_sx xs (i + 2)) μ (gf_sx_R _ _) (gf_sx_R _ _) hI.c7 hI.G hI.s hI.F) rfl ⟨rfl, rfl, Nat.le_of_ble_eq_true rfl, Nat.le_of_ble_eq_true rfl⟩ (Nat.le_of_ble_eq_true rfl) rfl dd_La_1153 (fun q1 μ1 hR1 hp1 => ?_)
  refine gf_aload_n C dd_La_1156 1 rfl ?_
  refine gf_aload_n C dd_La_1157 3 rfl ?_
  refine gf_iload_n C dd_La_1158 0 rfl ?_
  refine gf_iconst C dd_La_1159 ?_
  refine gf_iadd C dd_La_1160 ?_
  refine gf_sld C S dd_La_1161 (by omega) ?_
  refine gf_aload_n C dd_La_1162 3 rfl ?_
  refine gf_iload_n C dd_La_1163 0 rfl ?_
  refine gf_iconst C dd_La_1164 ?_
  refine gf_iadd C dd_La_1165 ?_
  refine gf_sld C S dd_La_1166 (by omega) ?_
  have v := vw_odds (i := gf_sx xs (i + 1)) (p := gf_sx xs (i + 2)) hI hp1
  refine gf_callVi2 (st := [.int (gf_i q1)]) (As := [.int (gf_i (gf_sx xs (i + 1))), .int (gf_i (gf_sx xs (i + 2)))]) C wk_La_149 gf_cl7 (show gf_is 81 65 0 7 26 by decide) (ct_Mo_odds (gf_xl X) E (gf_sx xs (i + 1)) (gf_sx xs (i + 2)) μ1 (gf_sx_R _ _) (gf_sx_R _ _) (hI.ok v)) rfl ⟨rfl, rfl, Nat.le_of_ble_eq_true rfl, Nat.le_of_ble_eq_true rfl⟩ (Nat.le_of_ble_eq_true rfl) rfl dd_La_1167 (fun q2 μ2 hR2 hp2 => ?_)
  have hst := st_odds (i := gf_sx xs (i + 1)) (p := gf_sx xs (i + 2)) hI hp1 hp2
  exact gf_icmp_eq 1355 C dd_La_1170 (by decide) hR1 hR2 (fun _ => kk μ2 hst.2) (fun h => absurd hst.1 h)
set_option maxRecDepth 100000 in
set_option maxHeartbeats 4000000 in
theorem la_mid {X : gf_X} {E : gf_E} {Q : State → Prop} {b L : Nat} {xs : Nat → Int32} (C : gf_C X E code 4 "GuardFiguresLaw" room_1) (S : la_S X E b L xs) {μ : gf_M} {i : Int} (hI : gf_I μ) (hi : 0 ≤ i ∧ i + 6 ≤ (L : Int)) (kk : ∀ μ' : gf_M, gf_I μ' → gf_G X E Q 4 la_φ μ' 1355 (la_lv E b i) []) : gf_G X E Q 4 la_φ μ 1175 (la_lv E b i) [] := by
  show gf_G X E Q 4 la_φ μ 1175 [(3, .int (gf_i i)), (2, .ref (gf_ad E 65)), (1, .ref (gf_ad E 0)), (0, .ref b)] []
  refine gf_aload_n C dd_La_1175 2 rfl ?_
  refine gf_aload_n C dd_La_1176 3 rfl ?_
  refine gf_iload_n C dd_La_1177 0 rfl ?_
  refine gf_iconst C dd_La_1178 ?_
  refine gf_iadd C dd_La_1179 ?_
  refine gf_sld C S dd_La_1180 (by omega) ?_
  refine gf_aload_n C dd_La_1181 3 rfl ?_
  refine gf_iload_n C dd_La_1182 0 rfl ?_
  refine gf_iconst C dd_La_1183 ?_
  refine gf_iadd C dd_La_1184 ?_
  refine gf_sld C S dd_La_1185 (by omega) ?_
  refine gf_callVi2 (st := []) (As := [.int (gf_i (gf_sx xs (i + 1))), .int (gf_i (gf_sx xs (i + 2)))]) C wk_La_150 gf_cl6 (show gf_is 81 0 0 6 17 by decide) (ct_Fi_mid (gf_xl X) E (gf_sx xs (i + 1)) (gf_sx xs (i + 2)) μ (gf_sx_R _ _) (gf_sx_R _ _) hI.c7 hI.G hI.s hI.F) rfl ⟨rfl, rfl, Nat.le_of_ble_eq_true rfl, Nat.le_of_ble_eq_true rfl⟩ (Nat.le_of_ble_eq_true rfl) rfl dd_La_1186 (fun q1 μ1 hR1 hp1 => ?_)
  refine gf_aload_n C dd_La_1189 1 rfl ?_
  refine gf_aload_n C dd_La_1190 3 rfl ?_
  refine gf_iload_n C dd_La_1191 0 rfl ?_
  refine gf_iconst C dd_La_1192 ?_
  refine gf_iadd C dd_La_1193 ?_
  refine gf_sld C S dd_La_1194 (by omega) ?_
  refine gf_aload_n C dd_La_1195 3 rfl ?_
  refine gf_iload_n C dd_La_1196 0 rfl ?_
  refine gf_iconst C dd_La_1197 ?_
  refine gf_iadd C dd_La_1198 ?_
  refine gf_sld C S dd_La_1199 (by omega) ?_
  have v := vw_mid (i := gf_sx xs (i + 1)) (p := gf_sx xs (i + 2)) hI hp1
  refine gf_callVi2 (st := [.int (gf_i q1)]) (As := [.int (gf_i (gf_sx xs (i + 1))), .int (gf_i (gf_sx xs (i + 2)))]) C wk_La_153 gf_cl7 (show gf_is 81 65 0 7 26 by decide) (ct_Mo_mid (gf_xl X) E (gf_sx xs (i + 1)) (gf_sx xs (i + 2)) μ1 (gf_sx_R _ _) (gf_sx_R _ _) (hI.ok v)) rfl ⟨rfl, rfl, Nat.le_of_ble_eq_true rfl, Nat.le_of_ble_eq_true rfl⟩ (Nat.le_of_ble_eq_true rfl) rfl dd_La_1200 (fun q2 μ2 hR2 hp2 => ?_)
  have hst := st_mid (i := gf_sx xs (i + 1)) (p := gf_sx xs (i + 2)) hI hp1 hp2
  exact gf_icmp_eq 1355 C dd_La_1203 (by decide) hR1 hR2 (fun _ => kk μ2 hst.2) (fun h => absurd hst.1 h)
set_option maxRecDepth 100000 in
set_option maxHeartbeats 4000000 in
theorem la_lots {X : gf_X} {E : gf_E} {Q : State → Prop} {b L : Nat} {xs : Nat → Int32} (C : gf_C X E code 4 "GuardFiguresLaw" room_1) (S : la_S X E b L xs) {μ : gf_M} {i : Int} (hI : gf_I μ) (hi : 0 ≤ i ∧ i + 6 ≤ (L : Int)) (kk : ∀ μ' : gf_M, gf_I μ' → gf_G X E Q 4 la_φ μ' 1355 (la_lv E b i) []) : gf_G X E Q 4 la_φ μ 1208 (la_lv E b i) [] := by
  show gf_G X E Q 4 la_φ μ 1208 [(3, .int (gf_i i)), (2, .ref (gf_ad E 65)), (1, .ref (gf_ad E 0)), (0, .ref b)] []
  refine gf_aload_n C dd_La_1208 2 rfl ?_
  refine gf_aload_n C dd_La_1209 3 rfl ?_
  refine gf_iload_n C dd_La_1210 0 rfl ?_
  refine gf_iconst C dd_La_1211 ?_
  refine gf_iadd C dd_La_1212 ?_
  refine gf_sld C S dd_La_1213 (by omega) ?_
  refine gf_aload_n C dd_La_1214 3 rfl ?_
  refine gf_iload_n C dd_La_1215 0 rfl ?_
  refine gf_iconst C dd_La_1216 ?_
  refine gf_iadd C dd_La_1217 ?_
  refine gf_sld C S dd_La_1218 (by omega) ?_
  refine gf_callVi2 (st := []) (As := [.int (gf_i (gf_sx xs (i + 1))), .int (gf_i (gf_sx xs (i + 2)))]) C wk_La_154 gf_cl6 (show gf_is 81 0 0 6 17 by decide) (ct_Fi_lots (gf_xl X) E (gf_sx xs (i + 1)) (gf_sx xs (i + 2)) μ (gf_sx_R _ _) (gf_sx_R _ _) hI.c7 hI.s hI.d hI.F) rfl ⟨rfl, rfl, Nat.le_of_ble_eq_true rfl, Nat.le_of_ble_eq_true rfl⟩ (Nat.le_of_ble_eq_true rfl) rfl dd_La_1219 (fun q1 μ1 hR1 hp1 => ?_)
  refine gf_aload_n C dd_La_1222 1 rfl ?_
  refine gf_aload_n C dd_La_1223 3 rfl ?_
  refine gf_iload_n C dd_La_1224 0 rfl ?_
  refine gf_iconst C dd_La_1225 ?_
  refine gf_iadd C dd_La_1226 ?_
  refine gf_sld C S dd_La_1227 (by omega) ?_
  refine gf_aload_n C dd_La_1228 3 rfl ?_
  refine gf_iload_n C dd_La_1229 0 rfl ?_
  refine gf_iconst C dd_La_1230 ?_
  refine gf_iadd C dd_La_1231 ?_
  refine gf_sld C S dd_La_1232 (by omega) ?_
  have v := vw_lots (n := gf_sx xs (i + 1)) (s := gf_sx xs (i + 2)) hI hp1
  refine gf_callVi2 (st := [.int (gf_i q1)]) (As := [.int (gf_i (gf_sx xs (i + 1))), .int (gf_i (gf_sx xs (i + 2)))]) C wk_La_157 gf_cl7 (show gf_is 81 65 0 7 26 by decide) (ct_Mo_lots (gf_xl X) E (gf_sx xs (i + 1)) (gf_sx xs (i + 2)) μ1 (gf_sx_R _ _) (gf_sx_R _ _) (hI.ok v).1 (hI.ok v).2.2.1 (hI.ok v).2.2.2.2) rfl ⟨rfl, rfl, Nat.le_of_ble_eq_true rfl, Nat.le_of_ble_eq_true rfl⟩ (Nat.le_of_ble_eq_true rfl) rfl dd_La_1233 (fun q2 μ2 hR2 hp2 => ?_)
  have hst := st_lots (n := gf_sx xs (i + 1)) (s := gf_sx xs (i + 2)) hI hp1 hp2
  exact gf_icmp_eq 1355 C dd_La_1236 (by decide) hR1 hR2 (fun _ => kk μ2 hst.2) (fun h => absurd hst.1 h)
