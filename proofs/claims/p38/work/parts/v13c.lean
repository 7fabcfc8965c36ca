theorem dL_law_1062 : decode cL_law 1062 = .ok (.aload_n 1, 1) := dc_aload1 (dl_at 1056 6 lb_33 rfl)
theorem dL_law_1063 : decode cL_law 1063 = .ok (.aload_n 0, 1) := dc_aload0 (dl_at 1056 7 lb_33 rfl)
theorem dL_law_1064 : decode cL_law 1064 = .ok (.iload_n 3, 1) := dc_iload3 (dl_at 1056 8 lb_33 rfl)
theorem dL_law_1065 : decode cL_law 1065 = .ok (.iconst 1, 1) := dc_iconst1 (dl_at 1056 9 lb_33 rfl)
theorem dL_law_1066 : decode cL_law 1066 = .ok (.iadd, 1) := dc_iadd (dl_at 1056 10 lb_33 rfl)
theorem dL_law_1067 : decode cL_law 1067 = .ok (.iaload, 1) := dc_iaload (dl_at 1056 11 lb_33 rfl)
theorem dL_law_1068 : decode cL_law 1068 = .ok (.aload_n 0, 1) := dc_aload0 (dl_at 1056 12 lb_33 rfl)
theorem dL_law_1069 : decode cL_law 1069 = .ok (.iload_n 3, 1) := dc_iload3 (dl_at 1056 13 lb_33 rfl)
theorem dL_law_1070 : decode cL_law 1070 = .ok (.iconst 2, 1) := dc_iconst2 (dl_at 1056 14 lb_33 rfl)
theorem dL_law_1071 : decode cL_law 1071 = .ok (.iadd, 1) := dc_iadd (dl_at 1056 15 lb_33 rfl)
theorem dL_law_1072 : decode cL_law 1072 = .ok (.iaload, 1) := dc_iaload (dl_at 1056 16 lb_33 rfl)
theorem dL_law_1073 : decode cL_law 1073 = .ok (.invokevirtual 122, 3) := dc_virt (a := 0) (b := 122) (dl_at 1056 17 lb_33 rfl) (dl_at 1056 18 lb_33 rfl) (dl_at 1056 19 lb_33 rfl)
theorem dL_law_1076 : decode cL_law 1076 = .ok (.pop, 1) := dc_pop (dl_at 1056 20 lb_33 rfl)
theorem dL_law_1077 : decode cL_law 1077 = .ok (.aload_n 2, 1) := dc_aload2 (dl_at 1056 21 lb_33 rfl)
theorem dL_law_1078 : decode cL_law 1078 = .ok (.aload_n 0, 1) := dc_aload0 (dl_at 1056 22 lb_33 rfl)
theorem dL_law_1079 : decode cL_law 1079 = .ok (.iload_n 3, 1) := dc_iload3 (dl_at 1056 23 lb_33 rfl)
theorem dL_law_1080 : decode cL_law 1080 = .ok (.iconst 1, 1) := dc_iconst1 (dl_at 1056 24 lb_33 rfl)
theorem dL_law_1081 : decode cL_law 1081 = .ok (.iadd, 1) := dc_iadd (dl_at 1056 25 lb_33 rfl)
theorem dL_law_1082 : decode cL_law 1082 = .ok (.iaload, 1) := dc_iaload (dl_at 1056 26 lb_33 rfl)
theorem dL_law_1083 : decode cL_law 1083 = .ok (.aload_n 0, 1) := dc_aload0 (dl_at 1056 27 lb_33 rfl)
theorem dL_law_1084 : decode cL_law 1084 = .ok (.iload_n 3, 1) := dc_iload3 (dl_at 1056 28 lb_33 rfl)
theorem dL_law_1085 : decode cL_law 1085 = .ok (.iconst 2, 1) := dc_iconst2 (dl_at 1056 29 lb_33 rfl)
theorem dL_law_1086 : decode cL_law 1086 = .ok (.iadd, 1) := dc_iadd (dl_at 1056 30 lb_33 rfl)
theorem dL_law_1087 : decode cL_law 1087 = .ok (.iaload, 1) := dc_iaload (dl_at 1056 31 lb_33 rfl)
theorem dL_law_1088 : decode cL_law 1088 = .ok (.invokevirtual 125, 3) := dc_virt (a := 0) (b := 125) (dl_at 1088 0 lb_34 rfl) (dl_at 1088 1 lb_34 rfl) (dl_at 1088 2 lb_34 rfl)
theorem dL_law_1091 : decode cL_law 1091 = .ok (.pop, 1) := dc_pop (dl_at 1088 3 lb_34 rfl)
theorem dL_law_1092 : decode cL_law 1092 = .ok (.goto 549, 3) := dc_goto (a := 2) (b := 37) (dl_at 1088 4 lb_34 rfl) (dl_at 1088 5 lb_34 rfl) (dl_at 1088 6 lb_34 rfl) (by decide +kernel)
theorem dL_law_1095 : decode cL_law 1095 = .ok (.aload_n 1, 1) := dc_aload1 (dl_at 1088 7 lb_34 rfl)
theorem dL_law_1096 : decode cL_law 1096 = .ok (.aload_n 0, 1) := dc_aload0 (dl_at 1088 8 lb_34 rfl)
theorem dL_law_1097 : decode cL_law 1097 = .ok (.iload_n 3, 1) := dc_iload3 (dl_at 1088 9 lb_34 rfl)
theorem dL_law_1098 : decode cL_law 1098 = .ok (.iconst 1, 1) := dc_iconst1 (dl_at 1088 10 lb_34 rfl)
theorem dL_law_1099 : decode cL_law 1099 = .ok (.iadd, 1) := dc_iadd (dl_at 1088 11 lb_34 rfl)
theorem dL_law_1100 : decode cL_law 1100 = .ok (.iaload, 1) := dc_iaload (dl_at 1088 12 lb_34 rfl)
theorem dL_law_1101 : decode cL_law 1101 = .ok (.invokevirtual 126, 3) := dc_virt (a := 0) (b := 126) (dl_at 1088 13 lb_34 rfl) (dl_at 1088 14 lb_34 rfl) (dl_at 1088 15 lb_34 rfl)
theorem dL_law_1104 : decode cL_law 1104 = .ok (.pop, 1) := dc_pop (dl_at 1088 16 lb_34 rfl)
theorem dL_law_1105 : decode cL_law 1105 = .ok (.aload_n 2, 1) := dc_aload2 (dl_at 1088 17 lb_34 rfl)
theorem dL_law_1106 : decode cL_law 1106 = .ok (.aload_n 0, 1) := dc_aload0 (dl_at 1088 18 lb_34 rfl)
theorem dL_law_1107 : decode cL_law 1107 = .ok (.iload_n 3, 1) := dc_iload3 (dl_at 1088 19 lb_34 rfl)
theorem dL_law_1108 : decode cL_law 1108 = .ok (.iconst 1, 1) := dc_iconst1 (dl_at 1088 20 lb_34 rfl)
theorem dL_law_1109 : decode cL_law 1109 = .ok (.iadd, 1) := dc_iadd (dl_at 1088 21 lb_34 rfl)
theorem dL_law_1110 : decode cL_law 1110 = .ok (.iaload, 1) := dc_iaload (dl_at 1088 22 lb_34 rfl)
theorem dL_law_1111 : decode cL_law 1111 = .ok (.invokevirtual 129, 3) := dc_virt (a := 0) (b := 129) (dl_at 1088 23 lb_34 rfl) (dl_at 1088 24 lb_34 rfl) (dl_at 1088 25 lb_34 rfl)
theorem dL_law_1114 : decode cL_law 1114 = .ok (.pop, 1) := dc_pop (dl_at 1088 26 lb_34 rfl)
theorem dL_law_1115 : decode cL_law 1115 = .ok (.goto 526, 3) := dc_goto (a := 2) (b := 14) (dl_at 1088 27 lb_34 rfl) (dl_at 1088 28 lb_34 rfl) (dl_at 1088 29 lb_34 rfl) (by decide +kernel)
theorem dL_law_1118 : decode cL_law 1118 = .ok (.aload_n 1, 1) := dc_aload1 (dl_at 1088 30 lb_34 rfl)
theorem dL_law_1119 : decode cL_law 1119 = .ok (.aload_n 0, 1) := dc_aload0 (dl_at 1088 31 lb_34 rfl)
theorem dL_law_1120 : decode cL_law 1120 = .ok (.iload_n 3, 1) := dc_iload3 (dl_at 1120 0 lb_35 rfl)
theorem dL_law_1121 : decode cL_law 1121 = .ok (.iconst 1, 1) := dc_iconst1 (dl_at 1120 1 lb_35 rfl)
theorem dL_law_1122 : decode cL_law 1122 = .ok (.iadd, 1) := dc_iadd (dl_at 1120 2 lb_35 rfl)
theorem dL_law_1123 : decode cL_law 1123 = .ok (.iaload, 1) := dc_iaload (dl_at 1120 3 lb_35 rfl)
theorem dL_law_1124 : decode cL_law 1124 = .ok (.invokevirtual 130, 3) := dc_virt (a := 0) (b := 130) (dl_at 1120 4 lb_35 rfl) (dl_at 1120 5 lb_35 rfl) (dl_at 1120 6 lb_35 rfl)
theorem dL_law_1127 : decode cL_law 1127 = .ok (.pop, 1) := dc_pop (dl_at 1120 7 lb_35 rfl)
theorem dL_law_1128 : decode cL_law 1128 = .ok (.aload_n 2, 1) := dc_aload2 (dl_at 1120 8 lb_35 rfl)
theorem dL_law_1129 : decode cL_law 1129 = .ok (.aload_n 0, 1) := dc_aload0 (dl_at 1120 9 lb_35 rfl)
theorem dL_law_1130 : decode cL_law 1130 = .ok (.iload_n 3, 1) := dc_iload3 (dl_at 1120 10 lb_35 rfl)
theorem dL_law_1131 : decode cL_law 1131 = .ok (.iconst 1, 1) := dc_iconst1 (dl_at 1120 11 lb_35 rfl)
theorem dL_law_1132 : decode cL_law 1132 = .ok (.iadd, 1) := dc_iadd (dl_at 1120 12 lb_35 rfl)
theorem dL_law_1133 : decode cL_law 1133 = .ok (.iaload, 1) := dc_iaload (dl_at 1120 13 lb_35 rfl)
theorem dL_law_1134 : decode cL_law 1134 = .ok (.invokevirtual 133, 3) := dc_virt (a := 0) (b := 133) (dl_at 1120 14 lb_35 rfl) (dl_at 1120 15 lb_35 rfl) (dl_at 1120 16 lb_35 rfl)
theorem dL_law_1137 : decode cL_law 1137 = .ok (.pop, 1) := dc_pop (dl_at 1120 17 lb_35 rfl)
theorem dL_law_1138 : decode cL_law 1138 = .ok (.goto 503, 3) := dc_goto (a := 1) (b := 247) (dl_at 1120 18 lb_35 rfl) (dl_at 1120 19 lb_35 rfl) (dl_at 1120 20 lb_35 rfl) (by decide +kernel)
theorem dL_law_1141 : decode cL_law 1141 = .ok (.aload_n 1, 1) := dc_aload1 (dl_at 1120 21 lb_35 rfl)
theorem dL_law_1142 : decode cL_law 1142 = .ok (.aload_n 0, 1) := dc_aload0 (dl_at 1120 22 lb_35 rfl)
theorem dL_law_1143 : decode cL_law 1143 = .ok (.iload_n 3, 1) := dc_iload3 (dl_at 1120 23 lb_35 rfl)
theorem dL_law_1144 : decode cL_law 1144 = .ok (.iconst 1, 1) := dc_iconst1 (dl_at 1120 24 lb_35 rfl)
theorem dL_law_1145 : decode cL_law 1145 = .ok (.iadd, 1) := dc_iadd (dl_at 1120 25 lb_35 rfl)
theorem dL_law_1146 : decode cL_law 1146 = .ok (.iaload, 1) := dc_iaload (dl_at 1120 26 lb_35 rfl)
theorem dL_law_1147 : decode cL_law 1147 = .ok (.invokevirtual 134, 3) := dc_virt (a := 0) (b := 134) (dl_at 1120 27 lb_35 rfl) (dl_at 1120 28 lb_35 rfl) (dl_at 1120 29 lb_35 rfl)
theorem dL_law_1150 : decode cL_law 1150 = .ok (.pop, 1) := dc_pop (dl_at 1120 30 lb_35 rfl)
theorem dL_law_1151 : decode cL_law 1151 = .ok (.aload_n 2, 1) := dc_aload2 (dl_at 1120 31 lb_35 rfl)
theorem dL_law_1152 : decode cL_law 1152 = .ok (.aload_n 0, 1) := dc_aload0 (dl_at 1152 0 lb_36 rfl)
theorem dL_law_1153 : decode cL_law 1153 = .ok (.iload_n 3, 1) := dc_iload3 (dl_at 1152 1 lb_36 rfl)
theorem dL_law_1154 : decode cL_law 1154 = .ok (.iconst 1, 1) := dc_iconst1 (dl_at 1152 2 lb_36 rfl)
theorem dL_law_1155 : decode cL_law 1155 = .ok (.iadd, 1) := dc_iadd (dl_at 1152 3 lb_36 rfl)
theorem dL_law_1156 : decode cL_law 1156 = .ok (.iaload, 1) := dc_iaload (dl_at 1152 4 lb_36 rfl)
theorem dL_law_1157 : decode cL_law 1157 = .ok (.invokevirtual 137, 3) := dc_virt (a := 0) (b := 137) (dl_at 1152 5 lb_36 rfl) (dl_at 1152 6 lb_36 rfl) (dl_at 1152 7 lb_36 rfl)
theorem dL_law_1160 : decode cL_law 1160 = .ok (.pop, 1) := dc_pop (dl_at 1152 8 lb_36 rfl)
theorem dL_law_1161 : decode cL_law 1161 = .ok (.goto 480, 3) := dc_goto (a := 1) (b := 224) (dl_at 1152 9 lb_36 rfl) (dl_at 1152 10 lb_36 rfl) (dl_at 1152 11 lb_36 rfl) (by decide +kernel)
theorem dL_law_1164 : decode cL_law 1164 = .ok (.aload_n 1, 1) := dc_aload1 (dl_at 1152 12 lb_36 rfl)
theorem dL_law_1165 : decode cL_law 1165 = .ok (.aload_n 0, 1) := dc_aload0 (dl_at 1152 13 lb_36 rfl)
theorem dL_law_1166 : decode cL_law 1166 = .ok (.iload_n 3, 1) := dc_iload3 (dl_at 1152 14 lb_36 rfl)
theorem dL_law_1167 : decode cL_law 1167 = .ok (.iconst 1, 1) := dc_iconst1 (dl_at 1152 15 lb_36 rfl)
theorem dL_law_1168 : decode cL_law 1168 = .ok (.iadd, 1) := dc_iadd (dl_at 1152 16 lb_36 rfl)
theorem dL_law_1169 : decode cL_law 1169 = .ok (.iaload, 1) := dc_iaload (dl_at 1152 17 lb_36 rfl)
theorem dL_law_1170 : decode cL_law 1170 = .ok (.invokevirtual 138, 3) := dc_virt (a := 0) (b := 138) (dl_at 1152 18 lb_36 rfl) (dl_at 1152 19 lb_36 rfl) (dl_at 1152 20 lb_36 rfl)
theorem dL_law_1173 : decode cL_law 1173 = .ok (.pop, 1) := dc_pop (dl_at 1152 21 lb_36 rfl)
theorem dL_law_1174 : decode cL_law 1174 = .ok (.aload_n 2, 1) := dc_aload2 (dl_at 1152 22 lb_36 rfl)
theorem dL_law_1175 : decode cL_law 1175 = .ok (.aload_n 0, 1) := dc_aload0 (dl_at 1152 23 lb_36 rfl)
theorem dL_law_1176 : decode cL_law 1176 = .ok (.iload_n 3, 1) := dc_iload3 (dl_at 1152 24 lb_36 rfl)
theorem dL_law_1177 : decode cL_law 1177 = .ok (.iconst 1, 1) := dc_iconst1 (dl_at 1152 25 lb_36 rfl)
theorem dL_law_1178 : decode cL_law 1178 = .ok (.iadd, 1) := dc_iadd (dl_at 1152 26 lb_36 rfl)
theorem dL_law_1179 : decode cL_law 1179 = .ok (.iaload, 1) := dc_iaload (dl_at 1152 27 lb_36 rfl)
theorem dL_law_1180 : decode cL_law 1180 = .ok (.invokevirtual 141, 3) := dc_virt (a := 0) (b := 141) (dl_at 1152 28 lb_36 rfl) (dl_at 1152 29 lb_36 rfl) (dl_at 1152 30 lb_36 rfl)
theorem dL_law_1183 : decode cL_law 1183 = .ok (.pop, 1) := dc_pop (dl_at 1152 31 lb_36 rfl)
theorem dL_law_1184 : decode cL_law 1184 = .ok (.goto 457, 3) := dc_goto (a := 1) (b := 201) (dl_at 1184 0 lb_37 rfl) (dl_at 1184 1 lb_37 rfl) (dl_at 1184 2 lb_37 rfl) (by decide +kernel)
theorem dL_law_1187 : decode cL_law 1187 = .ok (.aload_n 1, 1) := dc_aload1 (dl_at 1184 3 lb_37 rfl)
theorem dL_law_1188 : decode cL_law 1188 = .ok (.aload_n 0, 1) := dc_aload0 (dl_at 1184 4 lb_37 rfl)
theorem dL_law_1189 : decode cL_law 1189 = .ok (.iload_n 3, 1) := dc_iload3 (dl_at 1184 5 lb_37 rfl)
theorem dL_law_1190 : decode cL_law 1190 = .ok (.iconst 1, 1) := dc_iconst1 (dl_at 1184 6 lb_37 rfl)
theorem dL_law_1191 : decode cL_law 1191 = .ok (.iadd, 1) := dc_iadd (dl_at 1184 7 lb_37 rfl)
theorem dL_law_1192 : decode cL_law 1192 = .ok (.iaload, 1) := dc_iaload (dl_at 1184 8 lb_37 rfl)
theorem dL_law_1193 : decode cL_law 1193 = .ok (.invokevirtual 142, 3) := dc_virt (a := 0) (b := 142) (dl_at 1184 9 lb_37 rfl) (dl_at 1184 10 lb_37 rfl) (dl_at 1184 11 lb_37 rfl)
theorem dL_law_1196 : decode cL_law 1196 = .ok (.pop, 1) := dc_pop (dl_at 1184 12 lb_37 rfl)
theorem dL_law_1197 : decode cL_law 1197 = .ok (.aload_n 2, 1) := dc_aload2 (dl_at 1184 13 lb_37 rfl)
theorem dL_law_1198 : decode cL_law 1198 = .ok (.aload_n 0, 1) := dc_aload0 (dl_at 1184 14 lb_37 rfl)
theorem dL_law_1199 : decode cL_law 1199 = .ok (.iload_n 3, 1) := dc_iload3 (dl_at 1184 15 lb_37 rfl)
theorem dL_law_1200 : decode cL_law 1200 = .ok (.iconst 1, 1) := dc_iconst1 (dl_at 1184 16 lb_37 rfl)
theorem dL_law_1201 : decode cL_law 1201 = .ok (.iadd, 1) := dc_iadd (dl_at 1184 17 lb_37 rfl)
theorem dL_law_1202 : decode cL_law 1202 = .ok (.iaload, 1) := dc_iaload (dl_at 1184 18 lb_37 rfl)
theorem dL_law_1203 : decode cL_law 1203 = .ok (.invokevirtual 145, 3) := dc_virt (a := 0) (b := 145) (dl_at 1184 19 lb_37 rfl) (dl_at 1184 20 lb_37 rfl) (dl_at 1184 21 lb_37 rfl)
theorem dL_law_1206 : decode cL_law 1206 = .ok (.pop, 1) := dc_pop (dl_at 1184 22 lb_37 rfl)
theorem dL_law_1207 : decode cL_law 1207 = .ok (.goto 434, 3) := dc_goto (a := 1) (b := 178) (dl_at 1184 23 lb_37 rfl) (dl_at 1184 24 lb_37 rfl) (dl_at 1184 25 lb_37 rfl) (by decide +kernel)
theorem dL_law_1210 : decode cL_law 1210 = .ok (.aload_n 1, 1) := dc_aload1 (dl_at 1184 26 lb_37 rfl)
theorem dL_law_1211 : decode cL_law 1211 = .ok (.aload_n 0, 1) := dc_aload0 (dl_at 1184 27 lb_37 rfl)
theorem dL_law_1212 : decode cL_law 1212 = .ok (.iload_n 3, 1) := dc_iload3 (dl_at 1184 28 lb_37 rfl)
theorem dL_law_1213 : decode cL_law 1213 = .ok (.iconst 1, 1) := dc_iconst1 (dl_at 1184 29 lb_37 rfl)
theorem dL_law_1214 : decode cL_law 1214 = .ok (.iadd, 1) := dc_iadd (dl_at 1184 30 lb_37 rfl)
theorem dL_law_1215 : decode cL_law 1215 = .ok (.iaload, 1) := dc_iaload (dl_at 1184 31 lb_37 rfl)
theorem dL_law_1216 : decode cL_law 1216 = .ok (.invokevirtual 146, 3) := dc_virt (a := 0) (b := 146) (dl_at 1216 0 lb_38 rfl) (dl_at 1216 1 lb_38 rfl) (dl_at 1216 2 lb_38 rfl)
theorem dL_law_1219 : decode cL_law 1219 = .ok (.pop, 1) := dc_pop (dl_at 1216 3 lb_38 rfl)
theorem dL_law_1220 : decode cL_law 1220 = .ok (.aload_n 2, 1) := dc_aload2 (dl_at 1216 4 lb_38 rfl)
theorem dL_law_1221 : decode cL_law 1221 = .ok (.aload_n 0, 1) := dc_aload0 (dl_at 1216 5 lb_38 rfl)
theorem dL_law_1222 : decode cL_law 1222 = .ok (.iload_n 3, 1) := dc_iload3 (dl_at 1216 6 lb_38 rfl)
theorem dL_law_1223 : decode cL_law 1223 = .ok (.iconst 1, 1) := dc_iconst1 (dl_at 1216 7 lb_38 rfl)
theorem dL_law_1224 : decode cL_law 1224 = .ok (.iadd, 1) := dc_iadd (dl_at 1216 8 lb_38 rfl)
theorem dL_law_1225 : decode cL_law 1225 = .ok (.iaload, 1) := dc_iaload (dl_at 1216 9 lb_38 rfl)
theorem dL_law_1226 : decode cL_law 1226 = .ok (.invokevirtual 149, 3) := dc_virt (a := 0) (b := 149) (dl_at 1216 10 lb_38 rfl) (dl_at 1216 11 lb_38 rfl) (dl_at 1216 12 lb_38 rfl)
theorem dL_law_1229 : decode cL_law 1229 = .ok (.pop, 1) := dc_pop (dl_at 1216 13 lb_38 rfl)
theorem dL_law_1230 : decode cL_law 1230 = .ok (.goto 411, 3) := dc_goto (a := 1) (b := 155) (dl_at 1216 14 lb_38 rfl) (dl_at 1216 15 lb_38 rfl) (dl_at 1216 16 lb_38 rfl) (by decide +kernel)
theorem dL_law_1233 : decode cL_law 1233 = .ok (.aload_n 1, 1) := dc_aload1 (dl_at 1216 17 lb_38 rfl)
theorem dL_law_1234 : decode cL_law 1234 = .ok (.aload_n 0, 1) := dc_aload0 (dl_at 1216 18 lb_38 rfl)
theorem dL_law_1235 : decode cL_law 1235 = .ok (.iload_n 3, 1) := dc_iload3 (dl_at 1216 19 lb_38 rfl)
theorem dL_law_1236 : decode cL_law 1236 = .ok (.iconst 1, 1) := dc_iconst1 (dl_at 1216 20 lb_38 rfl)
theorem dL_law_1237 : decode cL_law 1237 = .ok (.iadd, 1) := dc_iadd (dl_at 1216 21 lb_38 rfl)
theorem dL_law_1238 : decode cL_law 1238 = .ok (.iaload, 1) := dc_iaload (dl_at 1216 22 lb_38 rfl)
theorem dL_law_1239 : decode cL_law 1239 = .ok (.aload_n 0, 1) := dc_aload0 (dl_at 1216 23 lb_38 rfl)
theorem dL_law_1240 : decode cL_law 1240 = .ok (.iload_n 3, 1) := dc_iload3 (dl_at 1216 24 lb_38 rfl)
theorem dL_law_1241 : decode cL_law 1241 = .ok (.iconst 2, 1) := dc_iconst2 (dl_at 1216 25 lb_38 rfl)
theorem dL_law_1242 : decode cL_law 1242 = .ok (.iadd, 1) := dc_iadd (dl_at 1216 26 lb_38 rfl)
theorem dL_law_1243 : decode cL_law 1243 = .ok (.iaload, 1) := dc_iaload (dl_at 1216 27 lb_38 rfl)
theorem dL_law_1244 : decode cL_law 1244 = .ok (.aload_n 0, 1) := dc_aload0 (dl_at 1216 28 lb_38 rfl)
theorem dL_law_1245 : decode cL_law 1245 = .ok (.iload_n 3, 1) := dc_iload3 (dl_at 1216 29 lb_38 rfl)
theorem dL_law_1246 : decode cL_law 1246 = .ok (.iconst 3, 1) := dc_iconst3 (dl_at 1216 30 lb_38 rfl)
theorem dL_law_1247 : decode cL_law 1247 = .ok (.iadd, 1) := dc_iadd (dl_at 1216 31 lb_38 rfl)
theorem dL_law_1248 : decode cL_law 1248 = .ok (.iaload, 1) := dc_iaload (dl_at 1248 0 lb_39 rfl)
theorem dL_law_1249 : decode cL_law 1249 = .ok (.invokevirtual 150, 3) := dc_virt (a := 0) (b := 150) (dl_at 1248 1 lb_39 rfl) (dl_at 1248 2 lb_39 rfl) (dl_at 1248 3 lb_39 rfl)
theorem dL_law_1252 : decode cL_law 1252 = .ok (.pop, 1) := dc_pop (dl_at 1248 4 lb_39 rfl)
theorem dL_law_1253 : decode cL_law 1253 = .ok (.aload_n 2, 1) := dc_aload2 (dl_at 1248 5 lb_39 rfl)
theorem dL_law_1254 : decode cL_law 1254 = .ok (.aload_n 0, 1) := dc_aload0 (dl_at 1248 6 lb_39 rfl)
theorem dL_law_1255 : decode cL_law 1255 = .ok (.iload_n 3, 1) := dc_iload3 (dl_at 1248 7 lb_39 rfl)
theorem dL_law_1256 : decode cL_law 1256 = .ok (.iconst 1, 1) := dc_iconst1 (dl_at 1248 8 lb_39 rfl)
theorem dL_law_1257 : decode cL_law 1257 = .ok (.iadd, 1) := dc_iadd (dl_at 1248 9 lb_39 rfl)
theorem dL_law_1258 : decode cL_law 1258 = .ok (.iaload, 1) := dc_iaload (dl_at 1248 10 lb_39 rfl)
theorem dL_law_1259 : decode cL_law 1259 = .ok (.aload_n 0, 1) := dc_aload0 (dl_at 1248 11 lb_39 rfl)
theorem dL_law_1260 : decode cL_law 1260 = .ok (.iload_n 3, 1) := dc_iload3 (dl_at 1248 12 lb_39 rfl)
theorem dL_law_1261 : decode cL_law 1261 = .ok (.iconst 2, 1) := dc_iconst2 (dl_at 1248 13 lb_39 rfl)
theorem dL_law_1262 : decode cL_law 1262 = .ok (.iadd, 1) := dc_iadd (dl_at 1248 14 lb_39 rfl)
theorem dL_law_1263 : decode cL_law 1263 = .ok (.iaload, 1) := dc_iaload (dl_at 1248 15 lb_39 rfl)
theorem dL_law_1264 : decode cL_law 1264 = .ok (.aload_n 0, 1) := dc_aload0 (dl_at 1248 16 lb_39 rfl)
theorem dL_law_1265 : decode cL_law 1265 = .ok (.iload_n 3, 1) := dc_iload3 (dl_at 1248 17 lb_39 rfl)
theorem dL_law_1266 : decode cL_law 1266 = .ok (.iconst 3, 1) := dc_iconst3 (dl_at 1248 18 lb_39 rfl)
theorem dL_law_1267 : decode cL_law 1267 = .ok (.iadd, 1) := dc_iadd (dl_at 1248 19 lb_39 rfl)
theorem dL_law_1268 : decode cL_law 1268 = .ok (.iaload, 1) := dc_iaload (dl_at 1248 20 lb_39 rfl)
theorem dL_law_1269 : decode cL_law 1269 = .ok (.invokevirtual 153, 3) := dc_virt (a := 0) (b := 153) (dl_at 1248 21 lb_39 rfl) (dl_at 1248 22 lb_39 rfl) (dl_at 1248 23 lb_39 rfl)
theorem dL_law_1272 : decode cL_law 1272 = .ok (.pop, 1) := dc_pop (dl_at 1248 24 lb_39 rfl)
theorem dL_law_1273 : decode cL_law 1273 = .ok (.goto 368, 3) := dc_goto (a := 1) (b := 112) (dl_at 1248 25 lb_39 rfl) (dl_at 1248 26 lb_39 rfl) (dl_at 1248 27 lb_39 rfl) (by decide +kernel)
theorem dL_law_1276 : decode cL_law 1276 = .ok (.aload_n 1, 1) := dc_aload1 (dl_at 1248 28 lb_39 rfl)
theorem dL_law_1277 : decode cL_law 1277 = .ok (.aload_n 0, 1) := dc_aload0 (dl_at 1248 29 lb_39 rfl)
theorem dL_law_1278 : decode cL_law 1278 = .ok (.iload_n 3, 1) := dc_iload3 (dl_at 1248 30 lb_39 rfl)
theorem dL_law_1279 : decode cL_law 1279 = .ok (.iconst 1, 1) := dc_iconst1 (dl_at 1248 31 lb_39 rfl)
theorem dL_law_1280 : decode cL_law 1280 = .ok (.iadd, 1) := dc_iadd (dl_at 1280 0 lb_40 rfl)
theorem dL_law_1281 : decode cL_law 1281 = .ok (.iaload, 1) := dc_iaload (dl_at 1280 1 lb_40 rfl)
theorem dL_law_1282 : decode cL_law 1282 = .ok (.invokevirtual 154, 3) := dc_virt (a := 0) (b := 154) (dl_at 1280 2 lb_40 rfl) (dl_at 1280 3 lb_40 rfl) (dl_at 1280 4 lb_40 rfl)
theorem dL_law_1285 : decode cL_law 1285 = .ok (.pop, 1) := dc_pop (dl_at 1280 5 lb_40 rfl)
theorem dL_law_1286 : decode cL_law 1286 = .ok (.aload_n 2, 1) := dc_aload2 (dl_at 1280 6 lb_40 rfl)
theorem dL_law_1287 : decode cL_law 1287 = .ok (.aload_n 0, 1) := dc_aload0 (dl_at 1280 7 lb_40 rfl)
theorem dL_law_1288 : decode cL_law 1288 = .ok (.iload_n 3, 1) := dc_iload3 (dl_at 1280 8 lb_40 rfl)
theorem dL_law_1289 : decode cL_law 1289 = .ok (.iconst 1, 1) := dc_iconst1 (dl_at 1280 9 lb_40 rfl)
theorem dL_law_1290 : decode cL_law 1290 = .ok (.iadd, 1) := dc_iadd (dl_at 1280 10 lb_40 rfl)
theorem dL_law_1291 : decode cL_law 1291 = .ok (.iaload, 1) := dc_iaload (dl_at 1280 11 lb_40 rfl)
theorem dL_law_1292 : decode cL_law 1292 = .ok (.invokevirtual 157, 3) := dc_virt (a := 0) (b := 157) (dl_at 1280 12 lb_40 rfl) (dl_at 1280 13 lb_40 rfl) (dl_at 1280 14 lb_40 rfl)
theorem dL_law_1295 : decode cL_law 1295 = .ok (.pop, 1) := dc_pop (dl_at 1280 15 lb_40 rfl)
theorem dL_law_1296 : decode cL_law 1296 = .ok (.goto 345, 3) := dc_goto (a := 1) (b := 89) (dl_at 1280 16 lb_40 rfl) (dl_at 1280 17 lb_40 rfl) (dl_at 1280 18 lb_40 rfl) (by decide +kernel)
theorem dL_law_1299 : decode cL_law 1299 = .ok (.aload_n 1, 1) := dc_aload1 (dl_at 1280 19 lb_40 rfl)
theorem dL_law_1300 : decode cL_law 1300 = .ok (.aload_n 0, 1) := dc_aload0 (dl_at 1280 20 lb_40 rfl)
theorem dL_law_1301 : decode cL_law 1301 = .ok (.iload_n 3, 1) := dc_iload3 (dl_at 1280 21 lb_40 rfl)
theorem dL_law_1302 : decode cL_law 1302 = .ok (.iconst 1, 1) := dc_iconst1 (dl_at 1280 22 lb_40 rfl)
theorem dL_law_1303 : decode cL_law 1303 = .ok (.iadd, 1) := dc_iadd (dl_at 1280 23 lb_40 rfl)
theorem dL_law_1304 : decode cL_law 1304 = .ok (.iaload, 1) := dc_iaload (dl_at 1280 24 lb_40 rfl)
theorem dL_law_1305 : decode cL_law 1305 = .ok (.invokevirtual 158, 3) := dc_virt (a := 0) (b := 158) (dl_at 1280 25 lb_40 rfl) (dl_at 1280 26 lb_40 rfl) (dl_at 1280 27 lb_40 rfl)
theorem dL_law_1308 : decode cL_law 1308 = .ok (.pop, 1) := dc_pop (dl_at 1280 28 lb_40 rfl)
theorem dL_law_1309 : decode cL_law 1309 = .ok (.aload_n 2, 1) := dc_aload2 (dl_at 1280 29 lb_40 rfl)
theorem dL_law_1310 : decode cL_law 1310 = .ok (.aload_n 0, 1) := dc_aload0 (dl_at 1280 30 lb_40 rfl)
theorem dL_law_1311 : decode cL_law 1311 = .ok (.iload_n 3, 1) := dc_iload3 (dl_at 1280 31 lb_40 rfl)
theorem dL_law_1312 : decode cL_law 1312 = .ok (.iconst 1, 1) := dc_iconst1 (dl_at 1312 0 lb_41 rfl)
theorem dL_law_1313 : decode cL_law 1313 = .ok (.iadd, 1) := dc_iadd (dl_at 1312 1 lb_41 rfl)
theorem dL_law_1314 : decode cL_law 1314 = .ok (.iaload, 1) := dc_iaload (dl_at 1312 2 lb_41 rfl)
theorem dL_law_1315 : decode cL_law 1315 = .ok (.invokevirtual 161, 3) := dc_virt (a := 0) (b := 161) (dl_at 1312 3 lb_41 rfl) (dl_at 1312 4 lb_41 rfl) (dl_at 1312 5 lb_41 rfl)
theorem dL_law_1318 : decode cL_law 1318 = .ok (.pop, 1) := dc_pop (dl_at 1312 6 lb_41 rfl)
theorem dL_law_1319 : decode cL_law 1319 = .ok (.goto 322, 3) := dc_goto (a := 1) (b := 66) (dl_at 1312 7 lb_41 rfl) (dl_at 1312 8 lb_41 rfl) (dl_at 1312 9 lb_41 rfl) (by decide +kernel)
theorem dL_law_1322 : decode cL_law 1322 = .ok (.aload_n 1, 1) := dc_aload1 (dl_at 1312 10 lb_41 rfl)
theorem dL_law_1323 : decode cL_law 1323 = .ok (.aload_n 0, 1) := dc_aload0 (dl_at 1312 11 lb_41 rfl)
theorem dL_law_1324 : decode cL_law 1324 = .ok (.iload_n 3, 1) := dc_iload3 (dl_at 1312 12 lb_41 rfl)
theorem dL_law_1325 : decode cL_law 1325 = .ok (.iconst 1, 1) := dc_iconst1 (dl_at 1312 13 lb_41 rfl)
theorem dL_law_1326 : decode cL_law 1326 = .ok (.iadd, 1) := dc_iadd (dl_at 1312 14 lb_41 rfl)
theorem dL_law_1327 : decode cL_law 1327 = .ok (.iaload, 1) := dc_iaload (dl_at 1312 15 lb_41 rfl)
theorem dL_law_1328 : decode cL_law 1328 = .ok (.aload_n 0, 1) := dc_aload0 (dl_at 1312 16 lb_41 rfl)
theorem dL_law_1329 : decode cL_law 1329 = .ok (.iload_n 3, 1) := dc_iload3 (dl_at 1312 17 lb_41 rfl)
theorem dL_law_1330 : decode cL_law 1330 = .ok (.iconst 2, 1) := dc_iconst2 (dl_at 1312 18 lb_41 rfl)
theorem dL_law_1331 : decode cL_law 1331 = .ok (.iadd, 1) := dc_iadd (dl_at 1312 19 lb_41 rfl)
theorem dL_law_1332 : decode cL_law 1332 = .ok (.iaload, 1) := dc_iaload (dl_at 1312 20 lb_41 rfl)
theorem dL_law_1333 : decode cL_law 1333 = .ok (.aload_n 0, 1) := dc_aload0 (dl_at 1312 21 lb_41 rfl)
theorem dL_law_1334 : decode cL_law 1334 = .ok (.iload_n 3, 1) := dc_iload3 (dl_at 1312 22 lb_41 rfl)
theorem dL_law_1335 : decode cL_law 1335 = .ok (.iconst 3, 1) := dc_iconst3 (dl_at 1312 23 lb_41 rfl)
theorem dL_law_1336 : decode cL_law 1336 = .ok (.iadd, 1) := dc_iadd (dl_at 1312 24 lb_41 rfl)
theorem dL_law_1337 : decode cL_law 1337 = .ok (.iaload, 1) := dc_iaload (dl_at 1312 25 lb_41 rfl)
theorem dL_law_1338 : decode cL_law 1338 = .ok (.invokevirtual 162, 3) := dc_virt (a := 0) (b := 162) (dl_at 1312 26 lb_41 rfl) (dl_at 1312 27 lb_41 rfl) (dl_at 1312 28 lb_41 rfl)
theorem dL_law_1341 : decode cL_law 1341 = .ok (.aload_n 2, 1) := dc_aload2 (dl_at 1312 29 lb_41 rfl)
theorem dL_law_1342 : decode cL_law 1342 = .ok (.aload_n 0, 1) := dc_aload0 (dl_at 1312 30 lb_41 rfl)
theorem dL_law_1343 : decode cL_law 1343 = .ok (.iload_n 3, 1) := dc_iload3 (dl_at 1312 31 lb_41 rfl)
theorem dL_law_1344 : decode cL_law 1344 = .ok (.iconst 1, 1) := dc_iconst1 (dl_at 1344 0 lb_42 rfl)
theorem dL_law_1345 : decode cL_law 1345 = .ok (.iadd, 1) := dc_iadd (dl_at 1344 1 lb_42 rfl)
theorem dL_law_1346 : decode cL_law 1346 = .ok (.iaload, 1) := dc_iaload (dl_at 1344 2 lb_42 rfl)
theorem dL_law_1347 : decode cL_law 1347 = .ok (.aload_n 0, 1) := dc_aload0 (dl_at 1344 3 lb_42 rfl)
theorem dL_law_1348 : decode cL_law 1348 = .ok (.iload_n 3, 1) := dc_iload3 (dl_at 1344 4 lb_42 rfl)
theorem dL_law_1349 : decode cL_law 1349 = .ok (.iconst 2, 1) := dc_iconst2 (dl_at 1344 5 lb_42 rfl)
theorem dL_law_1350 : decode cL_law 1350 = .ok (.iadd, 1) := dc_iadd (dl_at 1344 6 lb_42 rfl)
theorem dL_law_1351 : decode cL_law 1351 = .ok (.iaload, 1) := dc_iaload (dl_at 1344 7 lb_42 rfl)
theorem dL_law_1352 : decode cL_law 1352 = .ok (.aload_n 0, 1) := dc_aload0 (dl_at 1344 8 lb_42 rfl)
theorem dL_law_1353 : decode cL_law 1353 = .ok (.iload_n 3, 1) := dc_iload3 (dl_at 1344 9 lb_42 rfl)
theorem dL_law_1354 : decode cL_law 1354 = .ok (.iconst 3, 1) := dc_iconst3 (dl_at 1344 10 lb_42 rfl)
theorem dL_law_1355 : decode cL_law 1355 = .ok (.iadd, 1) := dc_iadd (dl_at 1344 11 lb_42 rfl)
theorem dL_law_1356 : decode cL_law 1356 = .ok (.iaload, 1) := dc_iaload (dl_at 1344 12 lb_42 rfl)
theorem dL_law_1357 : decode cL_law 1357 = .ok (.invokevirtual 165, 3) := dc_virt (a := 0) (b := 165) (dl_at 1344 13 lb_42 rfl) (dl_at 1344 14 lb_42 rfl) (dl_at 1344 15 lb_42 rfl)
theorem dL_law_1360 : decode cL_law 1360 = .ok (.if_icmp .eq 281, 3) := by decide +kernel
theorem dL_law_1365 : decode cL_law 1365 = .ok (.aload_n 1, 1) := dc_aload1 (dl_at 1344 21 lb_42 rfl)
theorem dL_law_1366 : decode cL_law 1366 = .ok (.aload_n 0, 1) := dc_aload0 (dl_at 1344 22 lb_42 rfl)
theorem dL_law_1367 : decode cL_law 1367 = .ok (.iload_n 3, 1) := dc_iload3 (dl_at 1344 23 lb_42 rfl)
theorem dL_law_1368 : decode cL_law 1368 = .ok (.iconst 1, 1) := dc_iconst1 (dl_at 1344 24 lb_42 rfl)
theorem dL_law_1369 : decode cL_law 1369 = .ok (.iadd, 1) := dc_iadd (dl_at 1344 25 lb_42 rfl)
theorem dL_law_1370 : decode cL_law 1370 = .ok (.iaload, 1) := dc_iaload (dl_at 1344 26 lb_42 rfl)
theorem dL_law_1371 : decode cL_law 1371 = .ok (.invokevirtual 166, 3) := dc_virt (a := 0) (b := 166) (dl_at 1344 27 lb_42 rfl) (dl_at 1344 28 lb_42 rfl) (dl_at 1344 29 lb_42 rfl)
theorem dL_law_1374 : decode cL_law 1374 = .ok (.pop, 1) := dc_pop (dl_at 1344 30 lb_42 rfl)
theorem dL_law_1375 : decode cL_law 1375 = .ok (.aload_n 2, 1) := dc_aload2 (dl_at 1344 31 lb_42 rfl)
theorem dL_law_1376 : decode cL_law 1376 = .ok (.aload_n 0, 1) := dc_aload0 (dl_at 1376 0 lb_43 rfl)
theorem dL_law_1377 : decode cL_law 1377 = .ok (.iload_n 3, 1) := dc_iload3 (dl_at 1376 1 lb_43 rfl)
theorem dL_law_1378 : decode cL_law 1378 = .ok (.iconst 1, 1) := dc_iconst1 (dl_at 1376 2 lb_43 rfl)
theorem dL_law_1379 : decode cL_law 1379 = .ok (.iadd, 1) := dc_iadd (dl_at 1376 3 lb_43 rfl)
theorem dL_law_1380 : decode cL_law 1380 = .ok (.iaload, 1) := dc_iaload (dl_at 1376 4 lb_43 rfl)
theorem dL_law_1381 : decode cL_law 1381 = .ok (.invokevirtual 169, 3) := dc_virt (a := 0) (b := 169) (dl_at 1376 5 lb_43 rfl) (dl_at 1376 6 lb_43 rfl) (dl_at 1376 7 lb_43 rfl)
theorem dL_law_1384 : decode cL_law 1384 = .ok (.pop, 1) := dc_pop (dl_at 1376 8 lb_43 rfl)
theorem dL_law_1385 : decode cL_law 1385 = .ok (.goto 256, 3) := dc_goto (a := 1) (b := 0) (dl_at 1376 9 lb_43 rfl) (dl_at 1376 10 lb_43 rfl) (dl_at 1376 11 lb_43 rfl) (by decide +kernel)
theorem dL_law_1388 : decode cL_law 1388 = .ok (.aload_n 1, 1) := dc_aload1 (dl_at 1376 12 lb_43 rfl)
theorem dL_law_1389 : decode cL_law 1389 = .ok (.aload_n 0, 1) := dc_aload0 (dl_at 1376 13 lb_43 rfl)
theorem dL_law_1390 : decode cL_law 1390 = .ok (.iload_n 3, 1) := dc_iload3 (dl_at 1376 14 lb_43 rfl)
theorem dL_law_1391 : decode cL_law 1391 = .ok (.iconst 1, 1) := dc_iconst1 (dl_at 1376 15 lb_43 rfl)
theorem dL_law_1392 : decode cL_law 1392 = .ok (.iadd, 1) := dc_iadd (dl_at 1376 16 lb_43 rfl)
theorem dL_law_1393 : decode cL_law 1393 = .ok (.iaload, 1) := dc_iaload (dl_at 1376 17 lb_43 rfl)
theorem dL_law_1394 : decode cL_law 1394 = .ok (.aload_n 0, 1) := dc_aload0 (dl_at 1376 18 lb_43 rfl)
theorem dL_law_1395 : decode cL_law 1395 = .ok (.iload_n 3, 1) := dc_iload3 (dl_at 1376 19 lb_43 rfl)
theorem dL_law_1396 : decode cL_law 1396 = .ok (.iconst 2, 1) := dc_iconst2 (dl_at 1376 20 lb_43 rfl)
theorem dL_law_1397 : decode cL_law 1397 = .ok (.iadd, 1) := dc_iadd (dl_at 1376 21 lb_43 rfl)
theorem dL_law_1398 : decode cL_law 1398 = .ok (.iaload, 1) := dc_iaload (dl_at 1376 22 lb_43 rfl)
theorem dL_law_1399 : decode cL_law 1399 = .ok (.invokevirtual 170, 3) := dc_virt (a := 0) (b := 170) (dl_at 1376 23 lb_43 rfl) (dl_at 1376 24 lb_43 rfl) (dl_at 1376 25 lb_43 rfl)
theorem dL_law_1402 : decode cL_law 1402 = .ok (.pop, 1) := dc_pop (dl_at 1376 26 lb_43 rfl)
theorem dL_law_1403 : decode cL_law 1403 = .ok (.aload_n 2, 1) := dc_aload2 (dl_at 1376 27 lb_43 rfl)
theorem dL_law_1404 : decode cL_law 1404 = .ok (.aload_n 0, 1) := dc_aload0 (dl_at 1376 28 lb_43 rfl)
theorem dL_law_1405 : decode cL_law 1405 = .ok (.iload_n 3, 1) := dc_iload3 (dl_at 1376 29 lb_43 rfl)
theorem dL_law_1406 : decode cL_law 1406 = .ok (.iconst 1, 1) := dc_iconst1 (dl_at 1376 30 lb_43 rfl)
theorem dL_law_1407 : decode cL_law 1407 = .ok (.iadd, 1) := dc_iadd (dl_at 1376 31 lb_43 rfl)
theorem dL_law_1408 : decode cL_law 1408 = .ok (.iaload, 1) := dc_iaload (dl_at 1408 0 lb_44 rfl)
theorem dL_law_1409 : decode cL_law 1409 = .ok (.aload_n 0, 1) := dc_aload0 (dl_at 1408 1 lb_44 rfl)
theorem dL_law_1410 : decode cL_law 1410 = .ok (.iload_n 3, 1) := dc_iload3 (dl_at 1408 2 lb_44 rfl)
theorem dL_law_1411 : decode cL_law 1411 = .ok (.iconst 2, 1) := dc_iconst2 (dl_at 1408 3 lb_44 rfl)
theorem dL_law_1412 : decode cL_law 1412 = .ok (.iadd, 1) := dc_iadd (dl_at 1408 4 lb_44 rfl)
theorem dL_law_1413 : decode cL_law 1413 = .ok (.iaload, 1) := dc_iaload (dl_at 1408 5 lb_44 rfl)
theorem dL_law_1414 : decode cL_law 1414 = .ok (.invokevirtual 173, 3) := dc_virt (a := 0) (b := 173) (dl_at 1408 6 lb_44 rfl) (dl_at 1408 7 lb_44 rfl) (dl_at 1408 8 lb_44 rfl)
theorem dL_law_1417 : decode cL_law 1417 = .ok (.pop, 1) := dc_pop (dl_at 1408 9 lb_44 rfl)
theorem dL_law_1418 : decode cL_law 1418 = .ok (.goto 223, 3) := dc_goto (a := 0) (b := 223) (dl_at 1408 10 lb_44 rfl) (dl_at 1408 11 lb_44 rfl) (dl_at 1408 12 lb_44 rfl) (by decide +kernel)
set_option maxHeartbeats 4000000 in
set_option maxRecDepth 100000 in
theorem le_26 {p : Program} {e : Env} {s : State} {m : MethodId} {below : List Frame} {meth : Method} {c : Code} (l : Launch) {b L : Nat} {xs : Nat → Int32} {dC : Nat → ClassId} {dI : Nat → Nat → Nat} {cs : Nat → ClassId} {tt : Nat} {adx adm : Nat → Nat} {i : Int32} {cc : Int} (F1 : lw_F p s m meth c b L xs dC dI cs tt) {mux mum : Nat → Nat → Int32} {H : Heap} {locs : List Loc} {ls : Array Slot} (J0 : lw_J s b dC dI cs adx adm i cc mux mum H locs ls) (hL : L ≤ 384) (hcc : 1000 ≤ cc ∧ cc ≤ 900000) (hi : 0 ≤ i.toInt ∧ i.toInt + 6 ≤ L) (KE : ∀ (mux mum : Nat → Nat → Int32) (H : Heap) (locs : List Loc) (ls : Array Slot), lw_J s b dC dI cs adx adm i (cc + 1000) mux mum H locs ls → W p l e room_1 s m #[Value.ref b] below meth c H locs 178 3099 (lw_Z below #[Value.ref b] s) (F0 m 1641 ls [])) : W p l e room_1 s m #[Value.ref b] below meth c H locs 178 3099 (lw_Z below #[Value.ref b] s) (F0 m 1062 ls []) := by
  have F2 := F1
  have J1 := J0
  obtain ⟨C0, hKx, hKm, hz, hks⟩ := F1
  obtain ⟨hx, hb, hr, hml, hown0, hts0, hX, hbl, hlocks, hgv⟩ := C0
  obtain ⟨okx, okm, hsim, hPx, hPm, hD, hS, hl⟩ := J0
  have okx0 := okx
  have okm0 := okm
  have hown : s.vm.findClass RL = some m.cls := hown0
  have hts := hts0
  have hbA : ¬ (fun q : Nat => s.heap.size ≤ q) b := Nat.not_le.mpr hbl
  have hA : ∀ q : Nat, s.heap.size ≤ q → (fun q : Nat => s.heap.size ≤ q) q := fun _ h => h
  refine lv_aload_n hx hb dL_law_1062 rfl (lv_at hl 2 rfl) ?_
  refine lv_aload_n hx hb dL_law_1063 rfl (lv_at hl 3 rfl) ?_
  refine lv_iload_n hx hb dL_law_1064 rfl (lv_at hl 0 rfl) ?_
  refine lv_iconst (v := 1) hx hb dL_law_1065 (by decide) ?_
  refine lv_iadd hx hb dL_law_1066 ?_
  refine lv_topi (fun t1 et1 => ?_)
  have at1 : t1.toInt = i.toInt + 1 := by rw [et1]; exact tI_add rfl (rfl : (1 : Int32).toInt = _) (by show _ ≤ i.toInt + (1 : Int); omega) (by show i.toInt + (1 : Int) < _; omega)
  refine va_sld hx hb hX hbl hbA hS (show vp_in t1 L from vi_of (by omega) (by omega)) dL_law_1067 ?_
  refine lv_topi (fun a1 ea1 => ?_)
  refine lv_aload_n hx hb dL_law_1068 rfl (lv_at hl 3 rfl) ?_
  refine lv_iload_n hx hb dL_law_1069 rfl (lv_at hl 0 rfl) ?_
  refine lv_iconst (v := 2) hx hb dL_law_1070 (by decide) ?_
  refine lv_iadd hx hb dL_law_1071 ?_
  refine lv_topi (fun t2 et2 => ?_)
  have at2 : t2.toInt = i.toInt + 2 := by rw [et2]; exact tI_add rfl (rfl : (2 : Int32).toInt = _) (by show _ ≤ i.toInt + (2 : Int); omega) (by show i.toInt + (2 : Int) < _; omega)
  refine va_sld hx hb hX hbl hbA hS (show vp_in t2 L from vi_of (by omega) (by omega)) dL_law_1072 ?_
  refine lv_topi (fun a2 ea2 => ?_)
  have hDx := dl_left hD
  have hDm := dl_right hD
  have hFx := fr_all hDx hS hA
  refine va_calli (va_runV (As := [.int a1, .int a2]) (rest := []) ⟨hx, hb, hml, hown, hts⟩ (qx_soonest l dC dI cs adx mux okx H hPx (hDx.weaken (fun _ _ _ _ => trivial)) a1 a2) (cwV 2 hts (wL_V mw_4_60 mw_4_57 mw_4_58 mw_4_59 mw_1_1) rfl rfl rfl (by decide +kernel) ⟨Nat.le_of_ble_eq_true rfl, Nat.le_of_ble_eq_true rfl⟩) ⟨sz_c, va_recv hKx hPx (ci := 11) (q0 := 0) rfl (gX_0 cs adx mux), sz_m hKx hz⟩ rfl rfl hl.1 rfl (lv_room (Nat.le_of_ble_eq_true rfl)) dL_law_1073 ⟨Nat.le_of_ble_eq_true rfl, Nat.le_of_ble_eq_true rfl⟩) hS (fun q _ h => hFx q h) hFx (fun r1 xi1 t H1 locs ht hvm hw1 hB hz1 hk1 hS => ?_)
  obtain ⟨hfe1, okx, hw1, hkp1⟩ := hw1
  have hPx : va_P (dC, dI) vwCl (wR 157 adx (EX cs adx) xi1) H1 := by rw [← ht]; exact hB
  have hPm := kp_rest hD hPm hk1
  have hD : va_D (fun q : Nat => s.heap.size ≤ q) ((wR 157 adx (EX cs adx) xi1) ++ (wR 21 adm (EM cs adm) mum)) := wR_DD _ _ hD
  refine lv_pop hx hb dL_law_1076 rfl ?_
  refine lv_aload_n hx hb dL_law_1077 rfl (lv_at hl 1 rfl) ?_
  refine lv_aload_n hx hb dL_law_1078 rfl (lv_at hl 3 rfl) ?_
  refine lv_iload_n hx hb dL_law_1079 rfl (lv_at hl 0 rfl) ?_
  refine lv_iconst (v := 1) hx hb dL_law_1080 (by decide) ?_
  refine lv_iadd hx hb dL_law_1081 ?_
  refine lq_i t1 et1.symm ?_
  refine va_sld hx hb hX hbl hbA hS (show vp_in t1 L from vi_of (by omega) (by omega)) dL_law_1082 ?_
  refine lq_i a1 ea1.symm ?_
  refine lv_aload_n hx hb dL_law_1083 rfl (lv_at hl 3 rfl) ?_
  refine lv_iload_n hx hb dL_law_1084 rfl (lv_at hl 0 rfl) ?_
  refine lv_iconst (v := 2) hx hb dL_law_1085 (by decide) ?_
  refine lv_iadd hx hb dL_law_1086 ?_
  refine lq_i t2 et2.symm ?_
  refine va_sld hx hb hX hbl hbA hS (show vp_in t2 L from vi_of (by omega) (by omega)) dL_law_1087 ?_
  refine lq_i a2 ea2.symm ?_
  have hDx := dl_left hD
  have hDm := dl_right hD
  have hFm := fr_all hDm hS hA
  refine va_calli (va_runV (As := [.int a1, .int a2]) (rest := []) ⟨hx, hb, hml, hown, hts⟩ (qm_soonest l dC dI cs adm mum okm H1 hPm (hDm.weaken (fun _ _ _ _ => trivial)) a1 a2) (cwV 2 hts (wL_V mw_6_200 mw_6_197 mw_6_198 mw_6_199 mw_1_13) rfl rfl rfl (by decide +kernel) ⟨Nat.le_of_ble_eq_true rfl, Nat.le_of_ble_eq_true rfl⟩) ⟨sz_c, va_recv hKm hPm (ci := 12) (q0 := 0) rfl (gM_0 cs adm mum), sz_m hKm hz⟩ rfl rfl hl.1 rfl (lv_room (Nat.le_of_ble_eq_true rfl)) dL_law_1088 ⟨Nat.le_of_ble_eq_true rfl, Nat.le_of_ble_eq_true rfl⟩) hS (fun q _ h => hFm q h) hFm (fun r2 xi2 t H2 locs ht hvm hw2 hB hz1 hk1 hS => ?_)
  obtain ⟨hfe2, okm, hw2, hkp2⟩ := hw2
  have hPm : va_P (dC, dI) vwCl (wR 21 adm (EM cs adm) xi2) H2 := by rw [← ht]; exact hB
  have hPx := kp_rest (pm_D List.perm_append_comm hD) hPx hk1
  have hD : va_D (fun q : Nat => s.heap.size ≤ q) ((wR 157 adx (EX cs adx) xi1) ++ (wR 21 adm (EM cs adm) xi2)) := wR_DD _ _ hD
  refine lv_pop hx hb dL_law_1091 rfl ?_
  refine lv_goto (tgt := 1641) hx hb dL_law_1092 (by decide) ?_
  exact KE xi1 xi2 _ _ _ ⟨okx, okm, ⟨simT_keep (by decide) (by decide) hkp1 hkp2 hsim.1, core_keep okm0 (by decide) (by decide) hkp1 hkp2 hsim.2.1, mon_le (mon_keep (by decide) hkp2 hsim.2.2) (by omega)⟩, hPx, hPm, hD, hS, hl⟩
set_option maxHeartbeats 4000000 in
set_option maxRecDepth 100000 in
theorem le_27 {p : Program} {e : Env} {s : State} {m : MethodId} {below : List Frame} {meth : Method} {c : Code} (l : Launch) {b L : Nat} {xs : Nat → Int32} {dC : Nat → ClassId} {dI : Nat → Nat → Nat} {cs : Nat → ClassId} {tt : Nat} {adx adm : Nat → Nat} {i : Int32} {cc : Int} (F1 : lw_F p s m meth c b L xs dC dI cs tt) {mux mum : Nat → Nat → Int32} {H : Heap} {locs : List Loc} {ls : Array Slot} (J0 : lw_J s b dC dI cs adx adm i cc mux mum H locs ls) (hL : L ≤ 384) (hcc : 1000 ≤ cc ∧ cc ≤ 900000) (hi : 0 ≤ i.toInt ∧ i.toInt + 6 ≤ L) (KE : ∀ (mux mum : Nat → Nat → Int32) (H : Heap) (locs : List Loc) (ls : Array Slot), lw_J s b dC dI cs adx adm i (cc + 1000) mux mum H locs ls → W p l e room_1 s m #[Value.ref b] below meth c H locs 178 3099 (lw_Z below #[Value.ref b] s) (F0 m 1641 ls [])) : W p l e room_1 s m #[Value.ref b] below meth c H locs 178 3099 (lw_Z below #[Value.ref b] s) (F0 m 1095 ls []) := by
  have F2 := F1
  have J1 := J0
  obtain ⟨C0, hKx, hKm, hz, hks⟩ := F1
  obtain ⟨hx, hb, hr, hml, hown0, hts0, hX, hbl, hlocks, hgv⟩ := C0
  obtain ⟨okx, okm, hsim, hPx, hPm, hD, hS, hl⟩ := J0
  have okx0 := okx
  have okm0 := okm
  have hown : s.vm.findClass RL = some m.cls := hown0
  have hts := hts0
  have hbA : ¬ (fun q : Nat => s.heap.size ≤ q) b := Nat.not_le.mpr hbl
  have hA : ∀ q : Nat, s.heap.size ≤ q → (fun q : Nat => s.heap.size ≤ q) q := fun _ h => h
  refine lv_aload_n hx hb dL_law_1095 rfl (lv_at hl 2 rfl) ?_
  refine lv_aload_n hx hb dL_law_1096 rfl (lv_at hl 3 rfl) ?_
  refine lv_iload_n hx hb dL_law_1097 rfl (lv_at hl 0 rfl) ?_
  refine lv_iconst (v := 1) hx hb dL_law_1098 (by decide) ?_
  refine lv_iadd hx hb dL_law_1099 ?_
  refine lv_topi (fun t1 et1 => ?_)
  have at1 : t1.toInt = i.toInt + 1 := by rw [et1]; exact tI_add rfl (rfl : (1 : Int32).toInt = _) (by show _ ≤ i.toInt + (1 : Int); omega) (by show i.toInt + (1 : Int) < _; omega)
  refine va_sld hx hb hX hbl hbA hS (show vp_in t1 L from vi_of (by omega) (by omega)) dL_law_1100 ?_
  refine lv_topi (fun a1 ea1 => ?_)
  have hDx := dl_left hD
  have hDm := dl_right hD
  have hFx := fr_all hDx hS hA
  refine va_calli (va_runV (As := [.int a1]) (rest := []) ⟨hx, hb, hml, hown, hts⟩ (qx_comes l dC dI cs adx mux okx H hPx (hDx.weaken (fun _ _ _ _ => trivial)) a1) (cwV 1 hts (wL_V mw_4_64 mw_4_61 mw_4_62 mw_4_63 mw_1_1) rfl rfl rfl (by decide +kernel) ⟨Nat.le_of_ble_eq_true rfl, Nat.le_of_ble_eq_true rfl⟩) ⟨sz_c, va_recv hKx hPx (ci := 11) (q0 := 0) rfl (gX_0 cs adx mux), sz_m hKx hz⟩ rfl rfl hl.1 rfl (lv_room (Nat.le_of_ble_eq_true rfl)) dL_law_1101 ⟨Nat.le_of_ble_eq_true rfl, Nat.le_of_ble_eq_true rfl⟩) hS (fun q _ h => hFx q h) hFx (fun r1 xi1 t H1 locs ht hvm hw1 hB hz1 hk1 hS => ?_)
  obtain ⟨hfe1, okx, hw1, hkp1⟩ := hw1
  have hPx : va_P (dC, dI) vwCl (wR 157 adx (EX cs adx) xi1) H1 := by rw [← ht]; exact hB
  have hPm := kp_rest hD hPm hk1
  have hD : va_D (fun q : Nat => s.heap.size ≤ q) ((wR 157 adx (EX cs adx) xi1) ++ (wR 21 adm (EM cs adm) mum)) := wR_DD _ _ hD
  refine lv_pop hx hb dL_law_1104 rfl ?_
  refine lv_aload_n hx hb dL_law_1105 rfl (lv_at hl 1 rfl) ?_
  refine lv_aload_n hx hb dL_law_1106 rfl (lv_at hl 3 rfl) ?_
  refine lv_iload_n hx hb dL_law_1107 rfl (lv_at hl 0 rfl) ?_
  refine lv_iconst (v := 1) hx hb dL_law_1108 (by decide) ?_
  refine lv_iadd hx hb dL_law_1109 ?_
  refine lq_i t1 et1.symm ?_
  refine va_sld hx hb hX hbl hbA hS (show vp_in t1 L from vi_of (by omega) (by omega)) dL_law_1110 ?_
  refine lq_i a1 ea1.symm ?_
  have hDx := dl_left hD
  have hDm := dl_right hD
  have hFm := fr_all hDm hS hA
  refine va_calli (va_runV (As := [.int a1]) (rest := []) ⟨hx, hb, hml, hown, hts⟩ (qm_comes l dC dI cs adm mum okm H1 hPm (hDm.weaken (fun _ _ _ _ => trivial)) a1) (cwV 1 hts (wL_V mw_6_204 mw_6_201 mw_6_202 mw_6_203 mw_1_13) rfl rfl rfl (by decide +kernel) ⟨Nat.le_of_ble_eq_true rfl, Nat.le_of_ble_eq_true rfl⟩) ⟨sz_c, va_recv hKm hPm (ci := 12) (q0 := 0) rfl (gM_0 cs adm mum), sz_m hKm hz⟩ rfl rfl hl.1 rfl (lv_room (Nat.le_of_ble_eq_true rfl)) dL_law_1111 ⟨Nat.le_of_ble_eq_true rfl, Nat.le_of_ble_eq_true rfl⟩) hS (fun q _ h => hFm q h) hFm (fun r2 xi2 t H2 locs ht hvm hw2 hB hz1 hk1 hS => ?_)
  obtain ⟨hfe2, okm, hw2, hkp2⟩ := hw2
  have hPm : va_P (dC, dI) vwCl (wR 21 adm (EM cs adm) xi2) H2 := by rw [← ht]; exact hB
  have hPx := kp_rest (pm_D List.perm_append_comm hD) hPx hk1
  have hD : va_D (fun q : Nat => s.heap.size ≤ q) ((wR 157 adx (EX cs adx) xi1) ++ (wR 21 adm (EM cs adm) xi2)) := wR_DD _ _ hD
  refine lv_pop hx hb dL_law_1114 rfl ?_
  refine lv_goto (tgt := 1641) hx hb dL_law_1115 (by decide) ?_
  exact KE xi1 xi2 _ _ _ ⟨okx, okm, ⟨simT_keep (by decide) (by decide) hkp1 hkp2 hsim.1, core_keep okm0 (by decide) (by decide) hkp1 hkp2 hsim.2.1, mon_le (mon_keep (by decide) hkp2 hsim.2.2) (by omega)⟩, hPx, hPm, hD, hS, hl⟩
set_option maxHeartbeats 4000000 in
set_option maxRecDepth 100000 in
theorem le_28 {p : Program} {e : Env} {s : State} {m : MethodId} {below : List Frame} {meth : Method} {c : Code} (l : Launch) {b L : Nat} {xs : Nat → Int32} {dC : Nat → ClassId} {dI : Nat → Nat → Nat} {cs : Nat → ClassId} {tt : Nat} {adx adm : Nat → Nat} {i : Int32} {cc : Int} (F1 : lw_F p s m meth c b L xs dC dI cs tt) {mux mum : Nat → Nat → Int32} {H : Heap} {locs : List Loc} {ls : Array Slot} (J0 : lw_J s b dC dI cs adx adm i cc mux mum H locs ls) (hL : L ≤ 384) (hcc : 1000 ≤ cc ∧ cc ≤ 900000) (hi : 0 ≤ i.toInt ∧ i.toInt + 6 ≤ L) (KE : ∀ (mux mum : Nat → Nat → Int32) (H : Heap) (locs : List Loc) (ls : Array Slot), lw_J s b dC dI cs adx adm i (cc + 1000) mux mum H locs ls → W p l e room_1 s m #[Value.ref b] below meth c H locs 178 3099 (lw_Z below #[Value.ref b] s) (F0 m 1641 ls [])) : W p l e room_1 s m #[Value.ref b] below meth c H locs 178 3099 (lw_Z below #[Value.ref b] s) (F0 m 1118 ls []) := by
  have F2 := F1
  have J1 := J0
  obtain ⟨C0, hKx, hKm, hz, hks⟩ := F1
  obtain ⟨hx, hb, hr, hml, hown0, hts0, hX, hbl, hlocks, hgv⟩ := C0
  obtain ⟨okx, okm, hsim, hPx, hPm, hD, hS, hl⟩ := J0
  have okx0 := okx
  have okm0 := okm
  have hown : s.vm.findClass RL = some m.cls := hown0
  have hts := hts0
  have hbA : ¬ (fun q : Nat => s.heap.size ≤ q) b := Nat.not_le.mpr hbl
  have hA : ∀ q : Nat, s.heap.size ≤ q → (fun q : Nat => s.heap.size ≤ q) q := fun _ h => h
  refine lv_aload_n hx hb dL_law_1118 rfl (lv_at hl 2 rfl) ?_
  refine lv_aload_n hx hb dL_law_1119 rfl (lv_at hl 3 rfl) ?_
  refine lv_iload_n hx hb dL_law_1120 rfl (lv_at hl 0 rfl) ?_
  refine lv_iconst (v := 1) hx hb dL_law_1121 (by decide) ?_
  refine lv_iadd hx hb dL_law_1122 ?_
  refine lv_topi (fun t1 et1 => ?_)
  have at1 : t1.toInt = i.toInt + 1 := by rw [et1]; exact tI_add rfl (rfl : (1 : Int32).toInt = _) (by show _ ≤ i.toInt + (1 : Int); omega) (by show i.toInt + (1 : Int) < _; omega)
  refine va_sld hx hb hX hbl hbA hS (show vp_in t1 L from vi_of (by omega) (by omega)) dL_law_1123 ?_
  refine lv_topi (fun a1 ea1 => ?_)
  have hDx := dl_left hD
  have hDm := dl_right hD
  have hFx := fr_all hDx hS hA
  refine va_calli (va_runV (As := [.int a1]) (rest := []) ⟨hx, hb, hml, hown, hts⟩ (qx_bars l dC dI cs adx mux okx H hPx (hDx.weaken (fun _ _ _ _ => trivial)) a1) (cwV 1 hts (wL_V mw_4_68 mw_4_65 mw_4_66 mw_4_67 mw_1_1) rfl rfl rfl (by decide +kernel) ⟨Nat.le_of_ble_eq_true rfl, Nat.le_of_ble_eq_true rfl⟩) ⟨sz_c, va_recv hKx hPx (ci := 11) (q0 := 0) rfl (gX_0 cs adx mux), sz_m hKx hz⟩ rfl rfl hl.1 rfl (lv_room (Nat.le_of_ble_eq_true rfl)) dL_law_1124 ⟨Nat.le_of_ble_eq_true rfl, Nat.le_of_ble_eq_true rfl⟩) hS (fun q _ h => hFx q h) hFx (fun r1 xi1 t H1 locs ht hvm hw1 hB hz1 hk1 hS => ?_)
  obtain ⟨hfe1, okx, hw1, hkp1⟩ := hw1
  have hPx : va_P (dC, dI) vwCl (wR 157 adx (EX cs adx) xi1) H1 := by rw [← ht]; exact hB
  have hPm := kp_rest hD hPm hk1
  have hD : va_D (fun q : Nat => s.heap.size ≤ q) ((wR 157 adx (EX cs adx) xi1) ++ (wR 21 adm (EM cs adm) mum)) := wR_DD _ _ hD
  refine lv_pop hx hb dL_law_1127 rfl ?_
  refine lv_aload_n hx hb dL_law_1128 rfl (lv_at hl 1 rfl) ?_
  refine lv_aload_n hx hb dL_law_1129 rfl (lv_at hl 3 rfl) ?_
  refine lv_iload_n hx hb dL_law_1130 rfl (lv_at hl 0 rfl) ?_
  refine lv_iconst (v := 1) hx hb dL_law_1131 (by decide) ?_
  refine lv_iadd hx hb dL_law_1132 ?_
  refine lq_i t1 et1.symm ?_
  refine va_sld hx hb hX hbl hbA hS (show vp_in t1 L from vi_of (by omega) (by omega)) dL_law_1133 ?_
  refine lq_i a1 ea1.symm ?_
  have hDx := dl_left hD
  have hDm := dl_right hD
  have hFm := fr_all hDm hS hA
  refine va_calli (va_runV (As := [.int a1]) (rest := []) ⟨hx, hb, hml, hown, hts⟩ (qm_bars l dC dI cs adm mum okm H1 hPm (hDm.weaken (fun _ _ _ _ => trivial)) a1) (cwV 1 hts (wL_V mw_6_208 mw_6_205 mw_6_206 mw_6_207 mw_1_13) rfl rfl rfl (by decide +kernel) ⟨Nat.le_of_ble_eq_true rfl, Nat.le_of_ble_eq_true rfl⟩) ⟨sz_c, va_recv hKm hPm (ci := 12) (q0 := 0) rfl (gM_0 cs adm mum), sz_m hKm hz⟩ rfl rfl hl.1 rfl (lv_room (Nat.le_of_ble_eq_true rfl)) dL_law_1134 ⟨Nat.le_of_ble_eq_true rfl, Nat.le_of_ble_eq_true rfl⟩) hS (fun q _ h => hFm q h) hFm (fun r2 xi2 t H2 locs ht hvm hw2 hB hz1 hk1 hS => ?_)
  obtain ⟨hfe2, okm, hw2, hkp2⟩ := hw2
  have hPm : va_P (dC, dI) vwCl (wR 21 adm (EM cs adm) xi2) H2 := by rw [← ht]; exact hB
  have hPx := kp_rest (pm_D List.perm_append_comm hD) hPx hk1
  have hD : va_D (fun q : Nat => s.heap.size ≤ q) ((wR 157 adx (EX cs adx) xi1) ++ (wR 21 adm (EM cs adm) xi2)) := wR_DD _ _ hD
  refine lv_pop hx hb dL_law_1137 rfl ?_
  refine lv_goto (tgt := 1641) hx hb dL_law_1138 (by decide) ?_
  exact KE xi1 xi2 _ _ _ ⟨okx, okm, ⟨simT_keep (by decide) (by decide) hkp1 hkp2 hsim.1, core_keep okm0 (by decide) (by decide) hkp1 hkp2 hsim.2.1, mon_le (mon_keep (by decide) hkp2 hsim.2.2) (by omega)⟩, hPx, hPm, hD, hS, hl⟩
set_option maxHeartbeats 4000000 in
set_option maxRecDepth 100000 in
theorem le_29 {p : Program} {e : Env} {s : State} {m : MethodId} {below : List Frame} {meth : Method} {c : Code} (l : Launch) {b L : Nat} {xs : Nat → Int32} {dC : Nat → ClassId} {dI : Nat → Nat → Nat} {cs : Nat → ClassId} {tt : Nat} {adx adm : Nat → Nat} {i : Int32} {cc : Int} (F1 : lw_F p s m meth c b L xs dC dI cs tt) {mux mum : Nat → Nat → Int32} {H : Heap} {locs : List Loc} {ls : Array Slot} (J0 : lw_J s b dC dI cs adx adm i cc mux mum H locs ls) (hL : L ≤ 384) (hcc : 1000 ≤ cc ∧ cc ≤ 900000) (hi : 0 ≤ i.toInt ∧ i.toInt + 6 ≤ L) (KE : ∀ (mux mum : Nat → Nat → Int32) (H : Heap) (locs : List Loc) (ls : Array Slot), lw_J s b dC dI cs adx adm i (cc + 1000) mux mum H locs ls → W p l e room_1 s m #[Value.ref b] below meth c H locs 178 3099 (lw_Z below #[Value.ref b] s) (F0 m 1641 ls [])) : W p l e room_1 s m #[Value.ref b] below meth c H locs 178 3099 (lw_Z below #[Value.ref b] s) (F0 m 1141 ls []) := by
  have F2 := F1
  have J1 := J0
  obtain ⟨C0, hKx, hKm, hz, hks⟩ := F1
  obtain ⟨hx, hb, hr, hml, hown0, hts0, hX, hbl, hlocks, hgv⟩ := C0
  obtain ⟨okx, okm, hsim, hPx, hPm, hD, hS, hl⟩ := J0
  have okx0 := okx
  have okm0 := okm
  have hown : s.vm.findClass RL = some m.cls := hown0
  have hts := hts0
  have hbA : ¬ (fun q : Nat => s.heap.size ≤ q) b := Nat.not_le.mpr hbl
  have hA : ∀ q : Nat, s.heap.size ≤ q → (fun q : Nat => s.heap.size ≤ q) q := fun _ h => h
  refine lv_aload_n hx hb dL_law_1141 rfl (lv_at hl 2 rfl) ?_
  refine lv_aload_n hx hb dL_law_1142 rfl (lv_at hl 3 rfl) ?_
  refine lv_iload_n hx hb dL_law_1143 rfl (lv_at hl 0 rfl) ?_
  refine lv_iconst (v := 1) hx hb dL_law_1144 (by decide) ?_
  refine lv_iadd hx hb dL_law_1145 ?_
  refine lv_topi (fun t1 et1 => ?_)
  have at1 : t1.toInt = i.toInt + 1 := by rw [et1]; exact tI_add rfl (rfl : (1 : Int32).toInt = _) (by show _ ≤ i.toInt + (1 : Int); omega) (by show i.toInt + (1 : Int) < _; omega)
  refine va_sld hx hb hX hbl hbA hS (show vp_in t1 L from vi_of (by omega) (by omega)) dL_law_1146 ?_
  refine lv_topi (fun a1 ea1 => ?_)
  have hDx := dl_left hD
  have hDm := dl_right hD
  have hFx := fr_all hDx hS hA
  refine va_calli (va_runV (As := [.int a1]) (rest := []) ⟨hx, hb, hml, hown, hts⟩ (qx_why l dC dI cs adx mux okx H hPx (hDx.weaken (fun _ _ _ _ => trivial)) a1) (cwV 1 hts (wL_V mw_4_72 mw_4_69 mw_4_70 mw_4_71 mw_1_1) rfl rfl rfl (by decide +kernel) ⟨Nat.le_of_ble_eq_true rfl, Nat.le_of_ble_eq_true rfl⟩) ⟨sz_c, va_recv hKx hPx (ci := 11) (q0 := 0) rfl (gX_0 cs adx mux), sz_m hKx hz⟩ rfl rfl hl.1 rfl (lv_room (Nat.le_of_ble_eq_true rfl)) dL_law_1147 ⟨Nat.le_of_ble_eq_true rfl, Nat.le_of_ble_eq_true rfl⟩) hS (fun q _ h => hFx q h) hFx (fun r1 xi1 t H1 locs ht hvm hw1 hB hz1 hk1 hS => ?_)
  obtain ⟨hfe1, okx, hw1, hkp1⟩ := hw1
  have hPx : va_P (dC, dI) vwCl (wR 157 adx (EX cs adx) xi1) H1 := by rw [← ht]; exact hB
  have hPm := kp_rest hD hPm hk1
  have hD : va_D (fun q : Nat => s.heap.size ≤ q) ((wR 157 adx (EX cs adx) xi1) ++ (wR 21 adm (EM cs adm) mum)) := wR_DD _ _ hD
  refine lv_pop hx hb dL_law_1150 rfl ?_
  refine lv_aload_n hx hb dL_law_1151 rfl (lv_at hl 1 rfl) ?_
  refine lv_aload_n hx hb dL_law_1152 rfl (lv_at hl 3 rfl) ?_
  refine lv_iload_n hx hb dL_law_1153 rfl (lv_at hl 0 rfl) ?_
  refine lv_iconst (v := 1) hx hb dL_law_1154 (by decide) ?_
  refine lv_iadd hx hb dL_law_1155 ?_
  refine lq_i t1 et1.symm ?_
  refine va_sld hx hb hX hbl hbA hS (show vp_in t1 L from vi_of (by omega) (by omega)) dL_law_1156 ?_
  refine lq_i a1 ea1.symm ?_
  have hDx := dl_left hD
  have hDm := dl_right hD
  have hFm := fr_all hDm hS hA
  refine va_calli (va_runV (As := [.int a1]) (rest := []) ⟨hx, hb, hml, hown, hts⟩ (qm_why l dC dI cs adm mum okm H1 hPm (hDm.weaken (fun _ _ _ _ => trivial)) a1) (cwV 1 hts (wL_V mw_6_212 mw_6_209 mw_6_210 mw_6_211 mw_1_13) rfl rfl rfl (by decide +kernel) ⟨Nat.le_of_ble_eq_true rfl, Nat.le_of_ble_eq_true rfl⟩) ⟨sz_c, va_recv hKm hPm (ci := 12) (q0 := 0) rfl (gM_0 cs adm mum), sz_m hKm hz⟩ rfl rfl hl.1 rfl (lv_room (Nat.le_of_ble_eq_true rfl)) dL_law_1157 ⟨Nat.le_of_ble_eq_true rfl, Nat.le_of_ble_eq_true rfl⟩) hS (fun q _ h => hFm q h) hFm (fun r2 xi2 t H2 locs ht hvm hw2 hB hz1 hk1 hS => ?_)
  obtain ⟨hfe2, okm, hw2, hkp2⟩ := hw2
  have hPm : va_P (dC, dI) vwCl (wR 21 adm (EM cs adm) xi2) H2 := by rw [← ht]; exact hB
  have hPx := kp_rest (pm_D List.perm_append_comm hD) hPx hk1
  have hD : va_D (fun q : Nat => s.heap.size ≤ q) ((wR 157 adx (EX cs adx) xi1) ++ (wR 21 adm (EM cs adm) xi2)) := wR_DD _ _ hD
  refine lv_pop hx hb dL_law_1160 rfl ?_
  refine lv_goto (tgt := 1641) hx hb dL_law_1161 (by decide) ?_
  exact KE xi1 xi2 _ _ _ ⟨okx, okm, ⟨simT_keep (by decide) (by decide) hkp1 hkp2 hsim.1, core_keep okm0 (by decide) (by decide) hkp1 hkp2 hsim.2.1, mon_le (mon_keep (by decide) hkp2 hsim.2.2) (by omega)⟩, hPx, hPm, hD, hS, hl⟩
set_option maxHeartbeats 4000000 in
set_option maxRecDepth 100000 in
theorem le_30 {p : Program} {e : Env} {s : State} {m : MethodId} {below : List Frame} {meth : Method} {c : Code} (l : Launch) {b L : Nat} {xs : Nat → Int32} {dC : Nat → ClassId} {dI : Nat → Nat → Nat} {cs : Nat → ClassId} {tt : Nat} {adx adm : Nat → Nat} {i : Int32} {cc : Int} (F1 : lw_F p s m meth c b L xs dC dI cs tt) {mux mum : Nat → Nat → Int32} {H : Heap} {locs : List Loc} {ls : Array Slot} (J0 : lw_J s b dC dI cs adx adm i cc mux mum H locs ls) (hL : L ≤ 384) (hcc : 1000 ≤ cc ∧ cc ≤ 900000) (hi : 0 ≤ i.toInt ∧ i.toInt + 6 ≤ L) (KE : ∀ (mux mum : Nat → Nat → Int32) (H : Heap) (locs : List Loc) (ls : Array Slot), lw_J s b dC dI cs adx adm i (cc + 1000) mux mum H locs ls → W p l e room_1 s m #[Value.ref b] below meth c H locs 178 3099 (lw_Z below #[Value.ref b] s) (F0 m 1641 ls [])) : W p l e room_1 s m #[Value.ref b] below meth c H locs 178 3099 (lw_Z below #[Value.ref b] s) (F0 m 1164 ls []) := by
  have F2 := F1
  have J1 := J0
  obtain ⟨C0, hKx, hKm, hz, hks⟩ := F1
  obtain ⟨hx, hb, hr, hml, hown0, hts0, hX, hbl, hlocks, hgv⟩ := C0
  obtain ⟨okx, okm, hsim, hPx, hPm, hD, hS, hl⟩ := J0
  have okx0 := okx
  have okm0 := okm
  have hown : s.vm.findClass RL = some m.cls := hown0
  have hts := hts0
  have hbA : ¬ (fun q : Nat => s.heap.size ≤ q) b := Nat.not_le.mpr hbl
  have hA : ∀ q : Nat, s.heap.size ≤ q → (fun q : Nat => s.heap.size ≤ q) q := fun _ h => h
  refine lv_aload_n hx hb dL_law_1164 rfl (lv_at hl 2 rfl) ?_
  refine lv_aload_n hx hb dL_law_1165 rfl (lv_at hl 3 rfl) ?_
  refine lv_iload_n hx hb dL_law_1166 rfl (lv_at hl 0 rfl) ?_
  refine lv_iconst (v := 1) hx hb dL_law_1167 (by decide) ?_
  refine lv_iadd hx hb dL_law_1168 ?_
  refine lv_topi (fun t1 et1 => ?_)
  have at1 : t1.toInt = i.toInt + 1 := by rw [et1]; exact tI_add rfl (rfl : (1 : Int32).toInt = _) (by show _ ≤ i.toInt + (1 : Int); omega) (by show i.toInt + (1 : Int) < _; omega)
  refine va_sld hx hb hX hbl hbA hS (show vp_in t1 L from vi_of (by omega) (by omega)) dL_law_1169 ?_
  refine lv_topi (fun a1 ea1 => ?_)
  have hDx := dl_left hD
  have hDm := dl_right hD
  have hFx := fr_all hDx hS hA
  refine va_calli (va_runV (As := [.int a1]) (rest := []) ⟨hx, hb, hml, hown, hts⟩ (qx_needs l dC dI cs adx mux okx H hPx (hDx.weaken (fun _ _ _ _ => trivial)) a1) (cwV 1 hts (wL_V mw_4_80 mw_4_77 mw_4_78 mw_4_79 mw_1_1) rfl rfl rfl (by decide +kernel) ⟨Nat.le_of_ble_eq_true rfl, Nat.le_of_ble_eq_true rfl⟩) ⟨sz_c, va_recv hKx hPx (ci := 11) (q0 := 0) rfl (gX_0 cs adx mux), sz_m hKx hz⟩ rfl rfl hl.1 rfl (lv_room (Nat.le_of_ble_eq_true rfl)) dL_law_1170 ⟨Nat.le_of_ble_eq_true rfl, Nat.le_of_ble_eq_true rfl⟩) hS (fun q _ h => hFx q h) hFx (fun r1 xi1 t H1 locs ht hvm hw1 hB hz1 hk1 hS => ?_)
  obtain ⟨hfe1, okx, hw1, hkp1⟩ := hw1
  have hPx : va_P (dC, dI) vwCl (wR 157 adx (EX cs adx) xi1) H1 := by rw [← ht]; exact hB
  have hPm := kp_rest hD hPm hk1
  have hD : va_D (fun q : Nat => s.heap.size ≤ q) ((wR 157 adx (EX cs adx) xi1) ++ (wR 21 adm (EM cs adm) mum)) := wR_DD _ _ hD
  refine lv_pop hx hb dL_law_1173 rfl ?_
  refine lv_aload_n hx hb dL_law_1174 rfl (lv_at hl 1 rfl) ?_
  refine lv_aload_n hx hb dL_law_1175 rfl (lv_at hl 3 rfl) ?_
  refine lv_iload_n hx hb dL_law_1176 rfl (lv_at hl 0 rfl) ?_
  refine lv_iconst (v := 1) hx hb dL_law_1177 (by decide) ?_
  refine lv_iadd hx hb dL_law_1178 ?_
  refine lq_i t1 et1.symm ?_
  refine va_sld hx hb hX hbl hbA hS (show vp_in t1 L from vi_of (by omega) (by omega)) dL_law_1179 ?_
  refine lq_i a1 ea1.symm ?_
  have hDx := dl_left hD
  have hDm := dl_right hD
  have hFm := fr_all hDm hS hA
  refine va_calli (va_runV (As := [.int a1]) (rest := []) ⟨hx, hb, hml, hown, hts⟩ (qm_needs l dC dI cs adm mum okm H1 hPm (hDm.weaken (fun _ _ _ _ => trivial)) a1) (cwV 1 hts (wL_V mw_6_216 mw_6_213 mw_6_214 mw_6_215 mw_1_13) rfl rfl rfl (by decide +kernel) ⟨Nat.le_of_ble_eq_true rfl, Nat.le_of_ble_eq_true rfl⟩) ⟨sz_c, va_recv hKm hPm (ci := 12) (q0 := 0) rfl (gM_0 cs adm mum), sz_m hKm hz⟩ rfl rfl hl.1 rfl (lv_room (Nat.le_of_ble_eq_true rfl)) dL_law_1180 ⟨Nat.le_of_ble_eq_true rfl, Nat.le_of_ble_eq_true rfl⟩) hS (fun q _ h => hFm q h) hFm (fun r2 xi2 t H2 locs ht hvm hw2 hB hz1 hk1 hS => ?_)
  obtain ⟨hfe2, okm, hw2, hkp2⟩ := hw2
  have hPm : va_P (dC, dI) vwCl (wR 21 adm (EM cs adm) xi2) H2 := by rw [← ht]; exact hB
  have hPx := kp_rest (pm_D List.perm_append_comm hD) hPx hk1
  have hD : va_D (fun q : Nat => s.heap.size ≤ q) ((wR 157 adx (EX cs adx) xi1) ++ (wR 21 adm (EM cs adm) xi2)) := wR_DD _ _ hD
  refine lv_pop hx hb dL_law_1183 rfl ?_
  refine lv_goto (tgt := 1641) hx hb dL_law_1184 (by decide) ?_
  exact KE xi1 xi2 _ _ _ ⟨okx, okm, ⟨simT_keep (by decide) (by decide) hkp1 hkp2 hsim.1, core_keep okm0 (by decide) (by decide) hkp1 hkp2 hsim.2.1, mon_le (mon_keep (by decide) hkp2 hsim.2.2) (by omega)⟩, hPx, hPm, hD, hS, hl⟩
set_option maxHeartbeats 4000000 in
set_option maxRecDepth 100000 in
theorem le_31 {p : Program} {e : Env} {s : State} {m : MethodId} {below : List Frame} {meth : Method} {c : Code} (l : Launch) {b L : Nat} {xs : Nat → Int32} {dC : Nat → ClassId} {dI : Nat → Nat → Nat} {cs : Nat → ClassId} {tt : Nat} {adx adm : Nat → Nat} {i : Int32} {cc : Int} (F1 : lw_F p s m meth c b L xs dC dI cs tt) {mux mum : Nat → Nat → Int32} {H : Heap} {locs : List Loc} {ls : Array Slot} (J0 : lw_J s b dC dI cs adx adm i cc mux mum H locs ls) (hL : L ≤ 384) (hcc : 1000 ≤ cc ∧ cc ≤ 900000) (hi : 0 ≤ i.toInt ∧ i.toInt + 6 ≤ L) (KE : ∀ (mux mum : Nat → Nat → Int32) (H : Heap) (locs : List Loc) (ls : Array Slot), lw_J s b dC dI cs adx adm i (cc + 1000) mux mum H locs ls → W p l e room_1 s m #[Value.ref b] below meth c H locs 178 3099 (lw_Z below #[Value.ref b] s) (F0 m 1641 ls [])) : W p l e room_1 s m #[Value.ref b] below meth c H locs 178 3099 (lw_Z below #[Value.ref b] s) (F0 m 1187 ls []) := by
  have F2 := F1
  have J1 := J0
  obtain ⟨C0, hKx, hKm, hz, hks⟩ := F1
  obtain ⟨hx, hb, hr, hml, hown0, hts0, hX, hbl, hlocks, hgv⟩ := C0
  obtain ⟨okx, okm, hsim, hPx, hPm, hD, hS, hl⟩ := J0
  have okx0 := okx
  have okm0 := okm
  have hown : s.vm.findClass RL = some m.cls := hown0
  have hts := hts0
  have hbA : ¬ (fun q : Nat => s.heap.size ≤ q) b := Nat.not_le.mpr hbl
  have hA : ∀ q : Nat, s.heap.size ≤ q → (fun q : Nat => s.heap.size ≤ q) q := fun _ h => h
  refine lv_aload_n hx hb dL_law_1187 rfl (lv_at hl 2 rfl) ?_
  refine lv_aload_n hx hb dL_law_1188 rfl (lv_at hl 3 rfl) ?_
  refine lv_iload_n hx hb dL_law_1189 rfl (lv_at hl 0 rfl) ?_
  refine lv_iconst (v := 1) hx hb dL_law_1190 (by decide) ?_
  refine lv_iadd hx hb dL_law_1191 ?_
  refine lv_topi (fun t1 et1 => ?_)
  have at1 : t1.toInt = i.toInt + 1 := by rw [et1]; exact tI_add rfl (rfl : (1 : Int32).toInt = _) (by show _ ≤ i.toInt + (1 : Int); omega) (by show i.toInt + (1 : Int) < _; omega)
  refine va_sld hx hb hX hbl hbA hS (show vp_in t1 L from vi_of (by omega) (by omega)) dL_law_1192 ?_
  refine lv_topi (fun a1 ea1 => ?_)
  have hDx := dl_left hD
  have hDm := dl_right hD
  have hFx := fr_all hDx hS hA
  refine va_calli (va_runV (As := [.int a1]) (rest := []) ⟨hx, hb, hml, hown, hts⟩ (qx_lend l dC dI cs adx mux okx H hPx (hDx.weaken (fun _ _ _ _ => trivial)) a1) (cwV 1 hts (wL_V mw_4_84 mw_4_81 mw_4_82 mw_4_83 mw_1_1) rfl rfl rfl (by decide +kernel) ⟨Nat.le_of_ble_eq_true rfl, Nat.le_of_ble_eq_true rfl⟩) ⟨sz_c, va_recv hKx hPx (ci := 11) (q0 := 0) rfl (gX_0 cs adx mux), sz_m hKx hz⟩ rfl rfl hl.1 rfl (lv_room (Nat.le_of_ble_eq_true rfl)) dL_law_1193 ⟨Nat.le_of_ble_eq_true rfl, Nat.le_of_ble_eq_true rfl⟩) hS (fun q _ h => hFx q h) hFx (fun r1 xi1 t H1 locs ht hvm hw1 hB hz1 hk1 hS => ?_)
  obtain ⟨hfe1, okx, hw1, hkp1⟩ := hw1
  have hPx : va_P (dC, dI) vwCl (wR 157 adx (EX cs adx) xi1) H1 := by rw [← ht]; exact hB
  have hPm := kp_rest hD hPm hk1
  have hD : va_D (fun q : Nat => s.heap.size ≤ q) ((wR 157 adx (EX cs adx) xi1) ++ (wR 21 adm (EM cs adm) mum)) := wR_DD _ _ hD
  refine lv_pop hx hb dL_law_1196 rfl ?_
  refine lv_aload_n hx hb dL_law_1197 rfl (lv_at hl 1 rfl) ?_
  refine lv_aload_n hx hb dL_law_1198 rfl (lv_at hl 3 rfl) ?_
  refine lv_iload_n hx hb dL_law_1199 rfl (lv_at hl 0 rfl) ?_
  refine lv_iconst (v := 1) hx hb dL_law_1200 (by decide) ?_
  refine lv_iadd hx hb dL_law_1201 ?_
  refine lq_i t1 et1.symm ?_
  refine va_sld hx hb hX hbl hbA hS (show vp_in t1 L from vi_of (by omega) (by omega)) dL_law_1202 ?_
  refine lq_i a1 ea1.symm ?_
  have hDx := dl_left hD
  have hDm := dl_right hD
  have hFm := fr_all hDm hS hA
  refine va_calli (va_runV (As := [.int a1]) (rest := []) ⟨hx, hb, hml, hown, hts⟩ (qm_lend l dC dI cs adm mum okm H1 hPm (hDm.weaken (fun _ _ _ _ => trivial)) a1) (cwV 1 hts (wL_V mw_6_220 mw_6_217 mw_6_218 mw_6_219 mw_1_13) rfl rfl rfl (by decide +kernel) ⟨Nat.le_of_ble_eq_true rfl, Nat.le_of_ble_eq_true rfl⟩) ⟨sz_c, va_recv hKm hPm (ci := 12) (q0 := 0) rfl (gM_0 cs adm mum), sz_m hKm hz⟩ rfl rfl hl.1 rfl (lv_room (Nat.le_of_ble_eq_true rfl)) dL_law_1203 ⟨Nat.le_of_ble_eq_true rfl, Nat.le_of_ble_eq_true rfl⟩) hS (fun q _ h => hFm q h) hFm (fun r2 xi2 t H2 locs ht hvm hw2 hB hz1 hk1 hS => ?_)
  obtain ⟨hfe2, okm, hw2, hkp2⟩ := hw2
  have hPm : va_P (dC, dI) vwCl (wR 21 adm (EM cs adm) xi2) H2 := by rw [← ht]; exact hB
  have hPx := kp_rest (pm_D List.perm_append_comm hD) hPx hk1
  have hD : va_D (fun q : Nat => s.heap.size ≤ q) ((wR 157 adx (EX cs adx) xi1) ++ (wR 21 adm (EM cs adm) xi2)) := wR_DD _ _ hD
  refine lv_pop hx hb dL_law_1206 rfl ?_
  refine lv_goto (tgt := 1641) hx hb dL_law_1207 (by decide) ?_
  exact KE xi1 xi2 _ _ _ ⟨okx, okm, ⟨simT_keep (by decide) (by decide) hkp1 hkp2 hsim.1, core_keep okm0 (by decide) (by decide) hkp1 hkp2 hsim.2.1, mon_le (mon_keep (by decide) hkp2 hsim.2.2) (by omega)⟩, hPx, hPm, hD, hS, hl⟩
set_option maxHeartbeats 4000000 in
set_option maxRecDepth 100000 in
theorem le_32 {p : Program} {e : Env} {s : State} {m : MethodId} {below : List Frame} {meth : Method} {c : Code} (l : Launch) {b L : Nat} {xs : Nat → Int32} {dC : Nat → ClassId} {dI : Nat → Nat → Nat} {cs : Nat → ClassId} {tt : Nat} {adx adm : Nat → Nat} {i : Int32} {cc : Int} (F1 : lw_F p s m meth c b L xs dC dI cs tt) {mux mum : Nat → Nat → Int32} {H : Heap} {locs : List Loc} {ls : Array Slot} (J0 : lw_J s b dC dI cs adx adm i cc mux mum H locs ls) (hL : L ≤ 384) (hcc : 1000 ≤ cc ∧ cc ≤ 900000) (hi : 0 ≤ i.toInt ∧ i.toInt + 6 ≤ L) (KE : ∀ (mux mum : Nat → Nat → Int32) (H : Heap) (locs : List Loc) (ls : Array Slot), lw_J s b dC dI cs adx adm i (cc + 1000) mux mum H locs ls → W p l e room_1 s m #[Value.ref b] below meth c H locs 178 3099 (lw_Z below #[Value.ref b] s) (F0 m 1641 ls [])) : W p l e room_1 s m #[Value.ref b] below meth c H locs 178 3099 (lw_Z below #[Value.ref b] s) (F0 m 1210 ls []) := by
  have F2 := F1
  have J1 := J0
  obtain ⟨C0, hKx, hKm, hz, hks⟩ := F1
  obtain ⟨hx, hb, hr, hml, hown0, hts0, hX, hbl, hlocks, hgv⟩ := C0
  obtain ⟨okx, okm, hsim, hPx, hPm, hD, hS, hl⟩ := J0
  have okx0 := okx
  have okm0 := okm
  have hown : s.vm.findClass RL = some m.cls := hown0
  have hts := hts0
  have hbA : ¬ (fun q : Nat => s.heap.size ≤ q) b := Nat.not_le.mpr hbl
  have hA : ∀ q : Nat, s.heap.size ≤ q → (fun q : Nat => s.heap.size ≤ q) q := fun _ h => h
  refine lv_aload_n hx hb dL_law_1210 rfl (lv_at hl 2 rfl) ?_
  refine lv_aload_n hx hb dL_law_1211 rfl (lv_at hl 3 rfl) ?_
  refine lv_iload_n hx hb dL_law_1212 rfl (lv_at hl 0 rfl) ?_
  refine lv_iconst (v := 1) hx hb dL_law_1213 (by decide) ?_
  refine lv_iadd hx hb dL_law_1214 ?_
  refine lv_topi (fun t1 et1 => ?_)
  have at1 : t1.toInt = i.toInt + 1 := by rw [et1]; exact tI_add rfl (rfl : (1 : Int32).toInt = _) (by show _ ≤ i.toInt + (1 : Int); omega) (by show i.toInt + (1 : Int) < _; omega)
  refine va_sld hx hb hX hbl hbA hS (show vp_in t1 L from vi_of (by omega) (by omega)) dL_law_1215 ?_
  refine lv_topi (fun a1 ea1 => ?_)
  have hDx := dl_left hD
  have hDm := dl_right hD
  have hFx := fr_all hDx hS hA
  refine va_calli (va_runV (As := [.int a1]) (rest := []) ⟨hx, hb, hml, hown, hts⟩ (qx_block l dC dI cs adx mux okx H hPx (hDx.weaken (fun _ _ _ _ => trivial)) a1) (cwV 1 hts (wL_V mw_4_93 mw_4_90 mw_4_91 mw_4_92 mw_1_1) rfl rfl rfl (by decide +kernel) ⟨Nat.le_of_ble_eq_true rfl, Nat.le_of_ble_eq_true rfl⟩) ⟨sz_c, va_recv hKx hPx (ci := 11) (q0 := 0) rfl (gX_0 cs adx mux), sz_m hKx hz⟩ rfl rfl hl.1 rfl (lv_room (Nat.le_of_ble_eq_true rfl)) dL_law_1216 ⟨Nat.le_of_ble_eq_true rfl, Nat.le_of_ble_eq_true rfl⟩) hS (fun q _ h => hFx q h) hFx (fun r1 xi1 t H1 locs ht hvm hw1 hB hz1 hk1 hS => ?_)
  obtain ⟨hfe1, okx, hw1, hkp1⟩ := hw1
  have hPx : va_P (dC, dI) vwCl (wR 157 adx (EX cs adx) xi1) H1 := by rw [← ht]; exact hB
  have hPm := kp_rest hD hPm hk1
  have hD : va_D (fun q : Nat => s.heap.size ≤ q) ((wR 157 adx (EX cs adx) xi1) ++ (wR 21 adm (EM cs adm) mum)) := wR_DD _ _ hD
  refine lv_pop hx hb dL_law_1219 rfl ?_
  refine lv_aload_n hx hb dL_law_1220 rfl (lv_at hl 1 rfl) ?_
  refine lv_aload_n hx hb dL_law_1221 rfl (lv_at hl 3 rfl) ?_
  refine lv_iload_n hx hb dL_law_1222 rfl (lv_at hl 0 rfl) ?_
  refine lv_iconst (v := 1) hx hb dL_law_1223 (by decide) ?_
  refine lv_iadd hx hb dL_law_1224 ?_
  refine lq_i t1 et1.symm ?_
  refine va_sld hx hb hX hbl hbA hS (show vp_in t1 L from vi_of (by omega) (by omega)) dL_law_1225 ?_
  refine lq_i a1 ea1.symm ?_
  have hDx := dl_left hD
  have hDm := dl_right hD
  have hFm := fr_all hDm hS hA
  refine va_calli (va_runV (As := [.int a1]) (rest := []) ⟨hx, hb, hml, hown, hts⟩ (qm_block l dC dI cs adm mum okm H1 hPm (hDm.weaken (fun _ _ _ _ => trivial)) a1) (cwV 1 hts (wL_V mw_6_224 mw_6_221 mw_6_222 mw_6_223 mw_1_13) rfl rfl rfl (by decide +kernel) ⟨Nat.le_of_ble_eq_true rfl, Nat.le_of_ble_eq_true rfl⟩) ⟨sz_c, va_recv hKm hPm (ci := 12) (q0 := 0) rfl (gM_0 cs adm mum), sz_m hKm hz⟩ rfl rfl hl.1 rfl (lv_room (Nat.le_of_ble_eq_true rfl)) dL_law_1226 ⟨Nat.le_of_ble_eq_true rfl, Nat.le_of_ble_eq_true rfl⟩) hS (fun q _ h => hFm q h) hFm (fun r2 xi2 t H2 locs ht hvm hw2 hB hz1 hk1 hS => ?_)
  obtain ⟨hfe2, okm, hw2, hkp2⟩ := hw2
  have hPm : va_P (dC, dI) vwCl (wR 21 adm (EM cs adm) xi2) H2 := by rw [← ht]; exact hB
  have hPx := kp_rest (pm_D List.perm_append_comm hD) hPx hk1
  have hD : va_D (fun q : Nat => s.heap.size ≤ q) ((wR 157 adx (EX cs adx) xi1) ++ (wR 21 adm (EM cs adm) xi2)) := wR_DD _ _ hD
  refine lv_pop hx hb dL_law_1229 rfl ?_
  refine lv_goto (tgt := 1641) hx hb dL_law_1230 (by decide) ?_
  exact KE xi1 xi2 _ _ _ ⟨okx, okm, ⟨simT_keep (by decide) (by decide) hkp1 hkp2 hsim.1, core_keep okm0 (by decide) (by decide) hkp1 hkp2 hsim.2.1, mon_le (mon_keep (by decide) hkp2 hsim.2.2) (by omega)⟩, hPx, hPm, hD, hS, hl⟩
set_option maxHeartbeats 4000000 in
set_option maxRecDepth 100000 in
theorem le_33 {p : Program} {e : Env} {s : State} {m : MethodId} {below : List Frame} {meth : Method} {c : Code} (l : Launch) {b L : Nat} {xs : Nat → Int32} {dC : Nat → ClassId} {dI : Nat → Nat → Nat} {cs : Nat → ClassId} {tt : Nat} {adx adm : Nat → Nat} {i : Int32} {cc : Int} (F1 : lw_F p s m meth c b L xs dC dI cs tt) {mux mum : Nat → Nat → Int32} {H : Heap} {locs : List Loc} {ls : Array Slot} (J0 : lw_J s b dC dI cs adx adm i cc mux mum H locs ls) (hL : L ≤ 384) (hcc : 1000 ≤ cc ∧ cc ≤ 900000) (hi : 0 ≤ i.toInt ∧ i.toInt + 6 ≤ L) (KE : ∀ (mux mum : Nat → Nat → Int32) (H : Heap) (locs : List Loc) (ls : Array Slot), lw_J s b dC dI cs adx adm i (cc + 1000) mux mum H locs ls → W p l e room_1 s m #[Value.ref b] below meth c H locs 178 3099 (lw_Z below #[Value.ref b] s) (F0 m 1641 ls [])) : W p l e room_1 s m #[Value.ref b] below meth c H locs 178 3099 (lw_Z below #[Value.ref b] s) (F0 m 1233 ls []) := by
  have F2 := F1
  have J1 := J0
  obtain ⟨C0, hKx, hKm, hz, hks⟩ := F1
  obtain ⟨hx, hb, hr, hml, hown0, hts0, hX, hbl, hlocks, hgv⟩ := C0
  obtain ⟨okx, okm, hsim, hPx, hPm, hD, hS, hl⟩ := J0
  have okx0 := okx
  have okm0 := okm
  have hown : s.vm.findClass RL = some m.cls := hown0
  have hts := hts0
  have hbA : ¬ (fun q : Nat => s.heap.size ≤ q) b := Nat.not_le.mpr hbl
  have hA : ∀ q : Nat, s.heap.size ≤ q → (fun q : Nat => s.heap.size ≤ q) q := fun _ h => h
  refine lv_aload_n hx hb dL_law_1233 rfl (lv_at hl 2 rfl) ?_
  refine lv_aload_n hx hb dL_law_1234 rfl (lv_at hl 3 rfl) ?_
  refine lv_iload_n hx hb dL_law_1235 rfl (lv_at hl 0 rfl) ?_
  refine lv_iconst (v := 1) hx hb dL_law_1236 (by decide) ?_
  refine lv_iadd hx hb dL_law_1237 ?_
  refine lv_topi (fun t1 et1 => ?_)
  have at1 : t1.toInt = i.toInt + 1 := by rw [et1]; exact tI_add rfl (rfl : (1 : Int32).toInt = _) (by show _ ≤ i.toInt + (1 : Int); omega) (by show i.toInt + (1 : Int) < _; omega)
  refine va_sld hx hb hX hbl hbA hS (show vp_in t1 L from vi_of (by omega) (by omega)) dL_law_1238 ?_
  refine lv_topi (fun a1 ea1 => ?_)
  refine lv_aload_n hx hb dL_law_1239 rfl (lv_at hl 3 rfl) ?_
  refine lv_iload_n hx hb dL_law_1240 rfl (lv_at hl 0 rfl) ?_
  refine lv_iconst (v := 2) hx hb dL_law_1241 (by decide) ?_
  refine lv_iadd hx hb dL_law_1242 ?_
  refine lv_topi (fun t2 et2 => ?_)
  have at2 : t2.toInt = i.toInt + 2 := by rw [et2]; exact tI_add rfl (rfl : (2 : Int32).toInt = _) (by show _ ≤ i.toInt + (2 : Int); omega) (by show i.toInt + (2 : Int) < _; omega)
  refine va_sld hx hb hX hbl hbA hS (show vp_in t2 L from vi_of (by omega) (by omega)) dL_law_1243 ?_
  refine lv_topi (fun a2 ea2 => ?_)
  refine lv_aload_n hx hb dL_law_1244 rfl (lv_at hl 3 rfl) ?_
  refine lv_iload_n hx hb dL_law_1245 rfl (lv_at hl 0 rfl) ?_
  refine lv_iconst (v := 3) hx hb dL_law_1246 (by decide) ?_
  refine lv_iadd hx hb dL_law_1247 ?_
  refine lv_topi (fun t3 et3 => ?_)
  have at3 : t3.toInt = i.toInt + 3 := by rw [et3]; exact tI_add rfl (rfl : (3 : Int32).toInt = _) (by show _ ≤ i.toInt + (3 : Int); omega) (by show i.toInt + (3 : Int) < _; omega)
  refine va_sld hx hb hX hbl hbA hS (show vp_in t3 L from vi_of (by omega) (by omega)) dL_law_1248 ?_
  refine lv_topi (fun a3 ea3 => ?_)
  have hDx := dl_left hD
  have hDm := dl_right hD
  have hFx := fr_all hDx hS hA
  refine va_calli (va_runV (As := [.int a1, .int a2, .int a3]) (rest := []) ⟨hx, hb, hml, hown, hts⟩ (qx_worth l dC dI cs adx mux okx H hPx (hDx.weaken (fun _ _ _ _ => trivial)) a1 a2 a3) (cwV 3 hts (wL_V mw_4_110 mw_4_107 mw_4_108 mw_4_109 mw_1_1) rfl rfl rfl (by decide +kernel) ⟨Nat.le_of_ble_eq_true rfl, Nat.le_of_ble_eq_true rfl⟩) ⟨sz_c, va_recv hKx hPx (ci := 11) (q0 := 0) rfl (gX_0 cs adx mux), sz_m hKx hz⟩ rfl rfl hl.1 rfl (lv_room (Nat.le_of_ble_eq_true rfl)) dL_law_1249 ⟨Nat.le_of_ble_eq_true rfl, Nat.le_of_ble_eq_true rfl⟩) hS (fun q _ h => hFx q h) hFx (fun r1 xi1 t H1 locs ht hvm hw1 hB hz1 hk1 hS => ?_)
  obtain ⟨okx, hw1, hkp1⟩ := hw1
  have hPx : va_P (dC, dI) vwCl (wR 157 adx (EX cs adx) xi1) H1 := by rw [← ht]; exact hB
  have hPm := kp_rest hD hPm hk1
  have hD : va_D (fun q : Nat => s.heap.size ≤ q) ((wR 157 adx (EX cs adx) xi1) ++ (wR 21 adm (EM cs adm) mum)) := wR_DD _ _ hD
  refine lv_pop hx hb dL_law_1252 rfl ?_
  refine lv_aload_n hx hb dL_law_1253 rfl (lv_at hl 1 rfl) ?_
  refine lv_aload_n hx hb dL_law_1254 rfl (lv_at hl 3 rfl) ?_
  refine lv_iload_n hx hb dL_law_1255 rfl (lv_at hl 0 rfl) ?_
  refine lv_iconst (v := 1) hx hb dL_law_1256 (by decide) ?_
  refine lv_iadd hx hb dL_law_1257 ?_
  refine lq_i t1 et1.symm ?_
  refine va_sld hx hb hX hbl hbA hS (show vp_in t1 L from vi_of (by omega) (by omega)) dL_law_1258 ?_
  refine lq_i a1 ea1.symm ?_
  refine lv_aload_n hx hb dL_law_1259 rfl (lv_at hl 3 rfl) ?_
  refine lv_iload_n hx hb dL_law_1260 rfl (lv_at hl 0 rfl) ?_
  refine lv_iconst (v := 2) hx hb dL_law_1261 (by decide) ?_
  refine lv_iadd hx hb dL_law_1262 ?_
  refine lq_i t2 et2.symm ?_
  refine va_sld hx hb hX hbl hbA hS (show vp_in t2 L from vi_of (by omega) (by omega)) dL_law_1263 ?_
  refine lq_i a2 ea2.symm ?_
  refine lv_aload_n hx hb dL_law_1264 rfl (lv_at hl 3 rfl) ?_
  refine lv_iload_n hx hb dL_law_1265 rfl (lv_at hl 0 rfl) ?_
  refine lv_iconst (v := 3) hx hb dL_law_1266 (by decide) ?_
  refine lv_iadd hx hb dL_law_1267 ?_
  refine lq_i t3 et3.symm ?_
  refine va_sld hx hb hX hbl hbA hS (show vp_in t3 L from vi_of (by omega) (by omega)) dL_law_1268 ?_
  refine lq_i a3 ea3.symm ?_
  have hDx := dl_left hD
  have hDm := dl_right hD
  have hFm := fr_all hDm hS hA
  refine va_calli (va_runV (As := [.int a1, .int a2, .int a3]) (rest := []) ⟨hx, hb, hml, hown, hts⟩ (qm_worth l dC dI cs adm mum okm H1 hPm (hDm.weaken (fun _ _ _ _ => trivial)) a1 a2 a3) (cwV 3 hts (wL_V mw_6_228 mw_6_225 mw_6_226 mw_6_227 mw_1_13) rfl rfl rfl (by decide +kernel) ⟨Nat.le_of_ble_eq_true rfl, Nat.le_of_ble_eq_true rfl⟩) ⟨sz_c, va_recv hKm hPm (ci := 12) (q0 := 0) rfl (gM_0 cs adm mum), sz_m hKm hz⟩ rfl rfl hl.1 rfl (lv_room (Nat.le_of_ble_eq_true rfl)) dL_law_1269 ⟨Nat.le_of_ble_eq_true rfl, Nat.le_of_ble_eq_true rfl⟩) hS (fun q _ h => hFm q h) hFm (fun r2 xi2 t H2 locs ht hvm hw2 hB hz1 hk1 hS => ?_)
  obtain ⟨okm, hw2, hkp2⟩ := hw2
  have hPm : va_P (dC, dI) vwCl (wR 21 adm (EM cs adm) xi2) H2 := by rw [← ht]; exact hB
  have hPx := kp_rest (pm_D List.perm_append_comm hD) hPx hk1
  have hD : va_D (fun q : Nat => s.heap.size ≤ q) ((wR 157 adx (EX cs adx) xi1) ++ (wR 21 adm (EM cs adm) xi2)) := wR_DD _ _ hD
  refine lv_pop hx hb dL_law_1272 rfl ?_
  refine lv_goto (tgt := 1641) hx hb dL_law_1273 (by decide) ?_
  exact KE xi1 xi2 _ _ _ ⟨okx, okm, ⟨simT_keep (by decide) (by decide) hkp1 hkp2 hsim.1, core_keep okm0 (by decide) (by decide) hkp1 hkp2 hsim.2.1, mon_le (mon_keep (by decide) hkp2 hsim.2.2) (by omega)⟩, hPx, hPm, hD, hS, hl⟩
set_option maxHeartbeats 4000000 in
set_option maxRecDepth 100000 in
theorem le_34 {p : Program} {e : Env} {s : State} {m : MethodId} {below : List Frame} {meth : Method} {c : Code} (l : Launch) {b L : Nat} {xs : Nat → Int32} {dC : Nat → ClassId} {dI : Nat → Nat → Nat} {cs : Nat → ClassId} {tt : Nat} {adx adm : Nat → Nat} {i : Int32} {cc : Int} (F1 : lw_F p s m meth c b L xs dC dI cs tt) {mux mum : Nat → Nat → Int32} {H : Heap} {locs : List Loc} {ls : Array Slot} (J0 : lw_J s b dC dI cs adx adm i cc mux mum H locs ls) (hL : L ≤ 384) (hcc : 1000 ≤ cc ∧ cc ≤ 900000) (hi : 0 ≤ i.toInt ∧ i.toInt + 6 ≤ L) (KE : ∀ (mux mum : Nat → Nat → Int32) (H : Heap) (locs : List Loc) (ls : Array Slot), lw_J s b dC dI cs adx adm i (cc + 1000) mux mum H locs ls → W p l e room_1 s m #[Value.ref b] below meth c H locs 178 3099 (lw_Z below #[Value.ref b] s) (F0 m 1641 ls [])) : W p l e room_1 s m #[Value.ref b] below meth c H locs 178 3099 (lw_Z below #[Value.ref b] s) (F0 m 1276 ls []) := by
  have F2 := F1
  have J1 := J0
  obtain ⟨C0, hKx, hKm, hz, hks⟩ := F1
  obtain ⟨hx, hb, hr, hml, hown0, hts0, hX, hbl, hlocks, hgv⟩ := C0
  obtain ⟨okx, okm, hsim, hPx, hPm, hD, hS, hl⟩ := J0
  have okx0 := okx
  have okm0 := okm
  have hown : s.vm.findClass RL = some m.cls := hown0
  have hts := hts0
  have hbA : ¬ (fun q : Nat => s.heap.size ≤ q) b := Nat.not_le.mpr hbl
  have hA : ∀ q : Nat, s.heap.size ≤ q → (fun q : Nat => s.heap.size ≤ q) q := fun _ h => h
  refine lv_aload_n hx hb dL_law_1276 rfl (lv_at hl 2 rfl) ?_
  refine lv_aload_n hx hb dL_law_1277 rfl (lv_at hl 3 rfl) ?_
  refine lv_iload_n hx hb dL_law_1278 rfl (lv_at hl 0 rfl) ?_
  refine lv_iconst (v := 1) hx hb dL_law_1279 (by decide) ?_
  refine lv_iadd hx hb dL_law_1280 ?_
  refine lv_topi (fun t1 et1 => ?_)
  have at1 : t1.toInt = i.toInt + 1 := by rw [et1]; exact tI_add rfl (rfl : (1 : Int32).toInt = _) (by show _ ≤ i.toInt + (1 : Int); omega) (by show i.toInt + (1 : Int) < _; omega)
  refine va_sld hx hb hX hbl hbA hS (show vp_in t1 L from vi_of (by omega) (by omega)) dL_law_1281 ?_
  refine lv_topi (fun a1 ea1 => ?_)
  have hDx := dl_left hD
  have hDm := dl_right hD
  have hFx := fr_all hDx hS hA
  refine va_calli (va_runV (As := [.int a1]) (rest := []) ⟨hx, hb, hml, hown, hts⟩ (qx_bundle l dC dI cs adx mux okx H hPx (hDx.weaken (fun _ _ _ _ => trivial)) a1) (cwV 1 hts (wL_V mw_4_125 mw_4_122 mw_4_123 mw_4_124 mw_1_1) rfl rfl rfl (by decide +kernel) ⟨Nat.le_of_ble_eq_true rfl, Nat.le_of_ble_eq_true rfl⟩) ⟨sz_c, va_recv hKx hPx (ci := 11) (q0 := 0) rfl (gX_0 cs adx mux), sz_m hKx hz⟩ rfl rfl hl.1 rfl (lv_room (Nat.le_of_ble_eq_true rfl)) dL_law_1282 ⟨Nat.le_of_ble_eq_true rfl, Nat.le_of_ble_eq_true rfl⟩) hS (fun q _ h => hFx q h) hFx (fun r1 xi1 t H1 locs ht hvm hw1 hB hz1 hk1 hS => ?_)
  obtain ⟨hfe1, okx, hw1, hkp1⟩ := hw1
  have hPx : va_P (dC, dI) vwCl (wR 157 adx (EX cs adx) xi1) H1 := by rw [← ht]; exact hB
  have hPm := kp_rest hD hPm hk1
  have hD : va_D (fun q : Nat => s.heap.size ≤ q) ((wR 157 adx (EX cs adx) xi1) ++ (wR 21 adm (EM cs adm) mum)) := wR_DD _ _ hD
  refine lv_pop hx hb dL_law_1285 rfl ?_
  refine lv_aload_n hx hb dL_law_1286 rfl (lv_at hl 1 rfl) ?_
  refine lv_aload_n hx hb dL_law_1287 rfl (lv_at hl 3 rfl) ?_
  refine lv_iload_n hx hb dL_law_1288 rfl (lv_at hl 0 rfl) ?_
  refine lv_iconst (v := 1) hx hb dL_law_1289 (by decide) ?_
  refine lv_iadd hx hb dL_law_1290 ?_
  refine lq_i t1 et1.symm ?_
  refine va_sld hx hb hX hbl hbA hS (show vp_in t1 L from vi_of (by omega) (by omega)) dL_law_1291 ?_
  refine lq_i a1 ea1.symm ?_
  have hDx := dl_left hD
  have hDm := dl_right hD
  have hFm := fr_all hDm hS hA
  refine va_calli (va_runV (As := [.int a1]) (rest := []) ⟨hx, hb, hml, hown, hts⟩ (qm_bundle l dC dI cs adm mum okm H1 hPm (hDm.weaken (fun _ _ _ _ => trivial)) a1) (cwV 1 hts (wL_V mw_6_236 mw_6_233 mw_6_234 mw_6_235 mw_1_13) rfl rfl rfl (by decide +kernel) ⟨Nat.le_of_ble_eq_true rfl, Nat.le_of_ble_eq_true rfl⟩) ⟨sz_c, va_recv hKm hPm (ci := 12) (q0 := 0) rfl (gM_0 cs adm mum), sz_m hKm hz⟩ rfl rfl hl.1 rfl (lv_room (Nat.le_of_ble_eq_true rfl)) dL_law_1292 ⟨Nat.le_of_ble_eq_true rfl, Nat.le_of_ble_eq_true rfl⟩) hS (fun q _ h => hFm q h) hFm (fun r2 xi2 t H2 locs ht hvm hw2 hB hz1 hk1 hS => ?_)
  obtain ⟨hfe2, okm, hw2, hkp2⟩ := hw2
  have hPm : va_P (dC, dI) vwCl (wR 21 adm (EM cs adm) xi2) H2 := by rw [← ht]; exact hB
  have hPx := kp_rest (pm_D List.perm_append_comm hD) hPx hk1
  have hD : va_D (fun q : Nat => s.heap.size ≤ q) ((wR 157 adx (EX cs adx) xi1) ++ (wR 21 adm (EM cs adm) xi2)) := wR_DD _ _ hD
  refine lv_pop hx hb dL_law_1295 rfl ?_
  refine lv_goto (tgt := 1641) hx hb dL_law_1296 (by decide) ?_
  exact KE xi1 xi2 _ _ _ ⟨okx, okm, ⟨simT_keep (by decide) (by decide) hkp1 hkp2 hsim.1, core_keep okm0 (by decide) (by decide) hkp1 hkp2 hsim.2.1, mon_le (mon_keep (by decide) hkp2 hsim.2.2) (by omega)⟩, hPx, hPm, hD, hS, hl⟩
set_option maxHeartbeats 4000000 in
set_option maxRecDepth 100000 in
theorem le_35 {p : Program} {e : Env} {s : State} {m : MethodId} {below : List Frame} {meth : Method} {c : Code} (l : Launch) {b L : Nat} {xs : Nat → Int32} {dC : Nat → ClassId} {dI : Nat → Nat → Nat} {cs : Nat → ClassId} {tt : Nat} {adx adm : Nat → Nat} {i : Int32} {cc : Int} (F1 : lw_F p s m meth c b L xs dC dI cs tt) {mux mum : Nat → Nat → Int32} {H : Heap} {locs : List Loc} {ls : Array Slot} (J0 : lw_J s b dC dI cs adx adm i cc mux mum H locs ls) (hL : L ≤ 384) (hcc : 1000 ≤ cc ∧ cc ≤ 900000) (hi : 0 ≤ i.toInt ∧ i.toInt + 6 ≤ L) (KE : ∀ (mux mum : Nat → Nat → Int32) (H : Heap) (locs : List Loc) (ls : Array Slot), lw_J s b dC dI cs adx adm i (cc + 1000) mux mum H locs ls → W p l e room_1 s m #[Value.ref b] below meth c H locs 178 3099 (lw_Z below #[Value.ref b] s) (F0 m 1641 ls [])) : W p l e room_1 s m #[Value.ref b] below meth c H locs 178 3099 (lw_Z below #[Value.ref b] s) (F0 m 1299 ls []) := by
  have F2 := F1
  have J1 := J0
  obtain ⟨C0, hKx, hKm, hz, hks⟩ := F1
  obtain ⟨hx, hb, hr, hml, hown0, hts0, hX, hbl, hlocks, hgv⟩ := C0
  obtain ⟨okx, okm, hsim, hPx, hPm, hD, hS, hl⟩ := J0
  have okx0 := okx
  have okm0 := okm
  have hown : s.vm.findClass RL = some m.cls := hown0
  have hts := hts0
  have hbA : ¬ (fun q : Nat => s.heap.size ≤ q) b := Nat.not_le.mpr hbl
  have hA : ∀ q : Nat, s.heap.size ≤ q → (fun q : Nat => s.heap.size ≤ q) q := fun _ h => h
  refine lv_aload_n hx hb dL_law_1299 rfl (lv_at hl 2 rfl) ?_
  refine lv_aload_n hx hb dL_law_1300 rfl (lv_at hl 3 rfl) ?_
  refine lv_iload_n hx hb dL_law_1301 rfl (lv_at hl 0 rfl) ?_
  refine lv_iconst (v := 1) hx hb dL_law_1302 (by decide) ?_
  refine lv_iadd hx hb dL_law_1303 ?_
  refine lv_topi (fun t1 et1 => ?_)
  have at1 : t1.toInt = i.toInt + 1 := by rw [et1]; exact tI_add rfl (rfl : (1 : Int32).toInt = _) (by show _ ≤ i.toInt + (1 : Int); omega) (by show i.toInt + (1 : Int) < _; omega)
  refine va_sld hx hb hX hbl hbA hS (show vp_in t1 L from vi_of (by omega) (by omega)) dL_law_1304 ?_
  refine lv_topi (fun a1 ea1 => ?_)
  have hDx := dl_left hD
  have hDm := dl_right hD
  have hFx := fr_all hDx hS hA
  refine va_calli (va_runV (As := [.int a1]) (rest := []) ⟨hx, hb, hml, hown, hts⟩ (qx_post l dC dI cs adx mux okx H hPx (hDx.weaken (fun _ _ _ _ => trivial)) a1) (cwV 1 hts (wL_V mw_4_138 mw_4_135 mw_4_136 mw_4_137 mw_1_1) rfl rfl rfl (by decide +kernel) ⟨Nat.le_of_ble_eq_true rfl, Nat.le_of_ble_eq_true rfl⟩) ⟨sz_c, va_recv hKx hPx (ci := 11) (q0 := 0) rfl (gX_0 cs adx mux), sz_m hKx hz⟩ rfl rfl hl.1 rfl (lv_room (Nat.le_of_ble_eq_true rfl)) dL_law_1305 ⟨Nat.le_of_ble_eq_true rfl, Nat.le_of_ble_eq_true rfl⟩) hS (fun q _ h => hFx q h) hFx (fun r1 xi1 t H1 locs ht hvm hw1 hB hz1 hk1 hS => ?_)
  obtain ⟨hfe1, okx, hw1, hkp1⟩ := hw1
  have hPx : va_P (dC, dI) vwCl (wR 157 adx (EX cs adx) xi1) H1 := by rw [← ht]; exact hB
  have hPm := kp_rest hD hPm hk1
  have hD : va_D (fun q : Nat => s.heap.size ≤ q) ((wR 157 adx (EX cs adx) xi1) ++ (wR 21 adm (EM cs adm) mum)) := wR_DD _ _ hD
  refine lv_pop hx hb dL_law_1308 rfl ?_
  refine lv_aload_n hx hb dL_law_1309 rfl (lv_at hl 1 rfl) ?_
  refine lv_aload_n hx hb dL_law_1310 rfl (lv_at hl 3 rfl) ?_
  refine lv_iload_n hx hb dL_law_1311 rfl (lv_at hl 0 rfl) ?_
  refine lv_iconst (v := 1) hx hb dL_law_1312 (by decide) ?_
  refine lv_iadd hx hb dL_law_1313 ?_
  refine lq_i t1 et1.symm ?_
  refine va_sld hx hb hX hbl hbA hS (show vp_in t1 L from vi_of (by omega) (by omega)) dL_law_1314 ?_
  refine lq_i a1 ea1.symm ?_
  have hDx := dl_left hD
  have hDm := dl_right hD
  have hFm := fr_all hDm hS hA
  refine va_calli (va_runV (As := [.int a1]) (rest := []) ⟨hx, hb, hml, hown, hts⟩ (qm_post l dC dI cs adm mum okm H1 hPm (hDm.weaken (fun _ _ _ _ => trivial)) a1) (cwV 1 hts (wL_V mw_7_0 mw_6_237 mw_6_238 mw_6_239 mw_1_13) rfl rfl rfl (by decide +kernel) ⟨Nat.le_of_ble_eq_true rfl, Nat.le_of_ble_eq_true rfl⟩) ⟨sz_c, va_recv hKm hPm (ci := 12) (q0 := 0) rfl (gM_0 cs adm mum), sz_m hKm hz⟩ rfl rfl hl.1 rfl (lv_room (Nat.le_of_ble_eq_true rfl)) dL_law_1315 ⟨Nat.le_of_ble_eq_true rfl, Nat.le_of_ble_eq_true rfl⟩) hS (fun q _ h => hFm q h) hFm (fun r2 xi2 t H2 locs ht hvm hw2 hB hz1 hk1 hS => ?_)
  obtain ⟨hfe2, okm, hw2, hkp2⟩ := hw2
  have hPm : va_P (dC, dI) vwCl (wR 21 adm (EM cs adm) xi2) H2 := by rw [← ht]; exact hB
  have hPx := kp_rest (pm_D List.perm_append_comm hD) hPx hk1
  have hD : va_D (fun q : Nat => s.heap.size ≤ q) ((wR 157 adx (EX cs adx) xi1) ++ (wR 21 adm (EM cs adm) xi2)) := wR_DD _ _ hD
  refine lv_pop hx hb dL_law_1318 rfl ?_
  refine lv_goto (tgt := 1641) hx hb dL_law_1319 (by decide) ?_
  exact KE xi1 xi2 _ _ _ ⟨okx, okm, ⟨simT_keep (by decide) (by decide) hkp1 hkp2 hsim.1, core_keep okm0 (by decide) (by decide) hkp1 hkp2 hsim.2.1, mon_le (mon_keep (by decide) hkp2 hsim.2.2) (by omega)⟩, hPx, hPm, hD, hS, hl⟩
set_option maxHeartbeats 4000000 in
set_option maxRecDepth 100000 in
theorem le_36 {p : Program} {e : Env} {s : State} {m : MethodId} {below : List Frame} {meth : Method} {c : Code} (l : Launch) {b L : Nat} {xs : Nat → Int32} {dC : Nat → ClassId} {dI : Nat → Nat → Nat} {cs : Nat → ClassId} {tt : Nat} {adx adm : Nat → Nat} {i : Int32} {cc : Int} (F1 : lw_F p s m meth c b L xs dC dI cs tt) {mux mum : Nat → Nat → Int32} {H : Heap} {locs : List Loc} {ls : Array Slot} (J0 : lw_J s b dC dI cs adx adm i cc mux mum H locs ls) (hL : L ≤ 384) (hcc : 1000 ≤ cc ∧ cc ≤ 900000) (hi : 0 ≤ i.toInt ∧ i.toInt + 6 ≤ L) (KE : ∀ (mux mum : Nat → Nat → Int32) (H : Heap) (locs : List Loc) (ls : Array Slot), lw_J s b dC dI cs adx adm i (cc + 1000) mux mum H locs ls → W p l e room_1 s m #[Value.ref b] below meth c H locs 178 3099 (lw_Z below #[Value.ref b] s) (F0 m 1641 ls [])) : W p l e room_1 s m #[Value.ref b] below meth c H locs 178 3099 (lw_Z below #[Value.ref b] s) (F0 m 1322 ls []) := by
  have F2 := F1
  have J1 := J0
  obtain ⟨C0, hKx, hKm, hz, hks⟩ := F1
  obtain ⟨hx, hb, hr, hml, hown0, hts0, hX, hbl, hlocks, hgv⟩ := C0
  obtain ⟨okx, okm, hsim, hPx, hPm, hD, hS, hl⟩ := J0
  have okx0 := okx
  have okm0 := okm
  have hown : s.vm.findClass RL = some m.cls := hown0
  have hts := hts0
  have hbA : ¬ (fun q : Nat => s.heap.size ≤ q) b := Nat.not_le.mpr hbl
  have hA : ∀ q : Nat, s.heap.size ≤ q → (fun q : Nat => s.heap.size ≤ q) q := fun _ h => h
  refine lv_aload_n hx hb dL_law_1322 rfl (lv_at hl 2 rfl) ?_
  refine lv_aload_n hx hb dL_law_1323 rfl (lv_at hl 3 rfl) ?_
  refine lv_iload_n hx hb dL_law_1324 rfl (lv_at hl 0 rfl) ?_
  refine lv_iconst (v := 1) hx hb dL_law_1325 (by decide) ?_
  refine lv_iadd hx hb dL_law_1326 ?_
  refine lv_topi (fun t1 et1 => ?_)
  have at1 : t1.toInt = i.toInt + 1 := by rw [et1]; exact tI_add rfl (rfl : (1 : Int32).toInt = _) (by show _ ≤ i.toInt + (1 : Int); omega) (by show i.toInt + (1 : Int) < _; omega)
  refine va_sld hx hb hX hbl hbA hS (show vp_in t1 L from vi_of (by omega) (by omega)) dL_law_1327 ?_
  refine lv_topi (fun a1 ea1 => ?_)
  refine lv_aload_n hx hb dL_law_1328 rfl (lv_at hl 3 rfl) ?_
  refine lv_iload_n hx hb dL_law_1329 rfl (lv_at hl 0 rfl) ?_
  refine lv_iconst (v := 2) hx hb dL_law_1330 (by decide) ?_
  refine lv_iadd hx hb dL_law_1331 ?_
  refine lv_topi (fun t2 et2 => ?_)
  have at2 : t2.toInt = i.toInt + 2 := by rw [et2]; exact tI_add rfl (rfl : (2 : Int32).toInt = _) (by show _ ≤ i.toInt + (2 : Int); omega) (by show i.toInt + (2 : Int) < _; omega)
  refine va_sld hx hb hX hbl hbA hS (show vp_in t2 L from vi_of (by omega) (by omega)) dL_law_1332 ?_
  refine lv_topi (fun a2 ea2 => ?_)
  refine lv_aload_n hx hb dL_law_1333 rfl (lv_at hl 3 rfl) ?_
  refine lv_iload_n hx hb dL_law_1334 rfl (lv_at hl 0 rfl) ?_
  refine lv_iconst (v := 3) hx hb dL_law_1335 (by decide) ?_
  refine lv_iadd hx hb dL_law_1336 ?_
  refine lv_topi (fun t3 et3 => ?_)
  have at3 : t3.toInt = i.toInt + 3 := by rw [et3]; exact tI_add rfl (rfl : (3 : Int32).toInt = _) (by show _ ≤ i.toInt + (3 : Int); omega) (by show i.toInt + (3 : Int) < _; omega)
  refine va_sld hx hb hX hbl hbA hS (show vp_in t3 L from vi_of (by omega) (by omega)) dL_law_1337 ?_
  refine lv_topi (fun a3 ea3 => ?_)
  have hDx := dl_left hD
  have hDm := dl_right hD
  have hFx := fr_all hDx hS hA
  refine va_calli (va_runV (As := [.int a1, .int a2, .int a3]) (rest := []) ⟨hx, hb, hml, hown, hts⟩ (qx_fake l dC dI cs adx mux okx H hPx (hDx.weaken (fun _ _ _ _ => trivial)) a1 a2 a3) (cwV 3 hts (wL_V mw_4_146 mw_4_143 mw_4_144 mw_4_145 mw_1_1) rfl rfl rfl (by decide +kernel) ⟨Nat.le_of_ble_eq_true rfl, Nat.le_of_ble_eq_true rfl⟩) ⟨sz_c, va_recv hKx hPx (ci := 11) (q0 := 0) rfl (gX_0 cs adx mux), sz_m hKx hz⟩ rfl rfl hl.1 rfl (lv_room (Nat.le_of_ble_eq_true rfl)) dL_law_1338 ⟨Nat.le_of_ble_eq_true rfl, Nat.le_of_ble_eq_true rfl⟩) hS (fun q _ h => hFx q h) hFx (fun r1 xi1 t H1 locs ht hvm hw1 hB hz1 hk1 hS => ?_)
  obtain ⟨hfe1, okx, hw1, hkp1⟩ := hw1
  have hPx : va_P (dC, dI) vwCl (wR 157 adx (EX cs adx) xi1) H1 := by rw [← ht]; exact hB
  have hPm := kp_rest hD hPm hk1
  have hD : va_D (fun q : Nat => s.heap.size ≤ q) ((wR 157 adx (EX cs adx) xi1) ++ (wR 21 adm (EM cs adm) mum)) := wR_DD _ _ hD
  refine lv_aload_n hx hb dL_law_1341 rfl (lv_at hl 1 rfl) ?_
  refine lv_aload_n hx hb dL_law_1342 rfl (lv_at hl 3 rfl) ?_
  refine lv_iload_n hx hb dL_law_1343 rfl (lv_at hl 0 rfl) ?_
  refine lv_iconst (v := 1) hx hb dL_law_1344 (by decide) ?_
  refine lv_iadd hx hb dL_law_1345 ?_
  refine lq_i t1 et1.symm ?_
  refine va_sld hx hb hX hbl hbA hS (show vp_in t1 L from vi_of (by omega) (by omega)) dL_law_1346 ?_
  refine lq_i a1 ea1.symm ?_
  refine lv_aload_n hx hb dL_law_1347 rfl (lv_at hl 3 rfl) ?_
  refine lv_iload_n hx hb dL_law_1348 rfl (lv_at hl 0 rfl) ?_
  refine lv_iconst (v := 2) hx hb dL_law_1349 (by decide) ?_
  refine lv_iadd hx hb dL_law_1350 ?_
  refine lq_i t2 et2.symm ?_
  refine va_sld hx hb hX hbl hbA hS (show vp_in t2 L from vi_of (by omega) (by omega)) dL_law_1351 ?_
  refine lq_i a2 ea2.symm ?_
  refine lv_aload_n hx hb dL_law_1352 rfl (lv_at hl 3 rfl) ?_
  refine lv_iload_n hx hb dL_law_1353 rfl (lv_at hl 0 rfl) ?_
  refine lv_iconst (v := 3) hx hb dL_law_1354 (by decide) ?_
  refine lv_iadd hx hb dL_law_1355 ?_
  refine lq_i t3 et3.symm ?_
  refine va_sld hx hb hX hbl hbA hS (show vp_in t3 L from vi_of (by omega) (by omega)) dL_law_1356 ?_
  refine lq_i a3 ea3.symm ?_
  have hDx := dl_left hD
  have hDm := dl_right hD
  have hFm := fr_all hDm hS hA
  refine va_calli (va_runV (As := [.int a1, .int a2, .int a3]) (rest := [.int r1]) ⟨hx, hb, hml, hown, hts⟩ (qm_fake l dC dI cs adm mum okm H1 hPm (hDm.weaken (fun _ _ _ _ => trivial)) a1 a2 a3) (cwV 3 hts (wL_V mw_7_4 mw_7_1 mw_7_2 mw_7_3 mw_1_13) rfl rfl rfl (by decide +kernel) ⟨Nat.le_of_ble_eq_true rfl, Nat.le_of_ble_eq_true rfl⟩) ⟨sz_c, va_recv hKm hPm (ci := 12) (q0 := 0) rfl (gM_0 cs adm mum), sz_m hKm hz⟩ rfl rfl hl.1 rfl (lv_room (Nat.le_of_ble_eq_true rfl)) dL_law_1357 ⟨Nat.le_of_ble_eq_true rfl, Nat.le_of_ble_eq_true rfl⟩) hS (fun q _ h => hFm q h) hFm (fun r2 xi2 t H2 locs ht hvm hw2 hB hz1 hk1 hS => ?_)
  obtain ⟨hfe2, okm, hw2, hkp2⟩ := hw2
  have hPm : va_P (dC, dI) vwCl (wR 21 adm (EM cs adm) xi2) H2 := by rw [← ht]; exact hB
  have hPx := kp_rest (pm_D List.perm_append_comm hD) hPx hk1
  have hD : va_D (fun q : Nat => s.heap.size ≤ q) ((wR 157 adx (EX cs adx) xi1) ++ (wR 21 adm (EM cs adm) xi2)) := wR_DD _ _ hD
  have heq : r1 = r2 := fake_rel ⟨Int.le_trans (by decide) hcc.1, Int.le_trans hcc.2 (by decide)⟩ okm0 hsim.2.1 hsim.2.2 hfe1 hfe2
  refine lv_icmp_eq (tgt := 1641) hx hb dL_law_1360 (by decide) (fun _ => ?_) (fun c => absurd heq c)
  exact KE xi1 xi2 _ _ _ ⟨okx, okm, ⟨simT_keep (by decide) (by decide) hkp1 hkp2 hsim.1, core_keep okm0 (by decide) (by decide) hkp1 hkp2 hsim.2.1, mon_le (mon_keep (by decide) hkp2 hsim.2.2) (by omega)⟩, hPx, hPm, hD, hS, hl⟩
set_option maxHeartbeats 4000000 in
set_option maxRecDepth 100000 in
theorem le_37 {p : Program} {e : Env} {s : State} {m : MethodId} {below : List Frame} {meth : Method} {c : Code} (l : Launch) {b L : Nat} {xs : Nat → Int32} {dC : Nat → ClassId} {dI : Nat → Nat → Nat} {cs : Nat → ClassId} {tt : Nat} {adx adm : Nat → Nat} {i : Int32} {cc : Int} (F1 : lw_F p s m meth c b L xs dC dI cs tt) {mux mum : Nat → Nat → Int32} {H : Heap} {locs : List Loc} {ls : Array Slot} (J0 : lw_J s b dC dI cs adx adm i cc mux mum H locs ls) (hL : L ≤ 384) (hcc : 1000 ≤ cc ∧ cc ≤ 900000) (hi : 0 ≤ i.toInt ∧ i.toInt + 6 ≤ L) (KE : ∀ (mux mum : Nat → Nat → Int32) (H : Heap) (locs : List Loc) (ls : Array Slot), lw_J s b dC dI cs adx adm i (cc + 1000) mux mum H locs ls → W p l e room_1 s m #[Value.ref b] below meth c H locs 178 3099 (lw_Z below #[Value.ref b] s) (F0 m 1641 ls [])) : W p l e room_1 s m #[Value.ref b] below meth c H locs 178 3099 (lw_Z below #[Value.ref b] s) (F0 m 1365 ls []) := by
  have F2 := F1
  have J1 := J0
  obtain ⟨C0, hKx, hKm, hz, hks⟩ := F1
  obtain ⟨hx, hb, hr, hml, hown0, hts0, hX, hbl, hlocks, hgv⟩ := C0
  obtain ⟨okx, okm, hsim, hPx, hPm, hD, hS, hl⟩ := J0
  have okx0 := okx
  have okm0 := okm
  have hown : s.vm.findClass RL = some m.cls := hown0
  have hts := hts0
  have hbA : ¬ (fun q : Nat => s.heap.size ≤ q) b := Nat.not_le.mpr hbl
  have hA : ∀ q : Nat, s.heap.size ≤ q → (fun q : Nat => s.heap.size ≤ q) q := fun _ h => h
  refine lv_aload_n hx hb dL_law_1365 rfl (lv_at hl 2 rfl) ?_
  refine lv_aload_n hx hb dL_law_1366 rfl (lv_at hl 3 rfl) ?_
  refine lv_iload_n hx hb dL_law_1367 rfl (lv_at hl 0 rfl) ?_
  refine lv_iconst (v := 1) hx hb dL_law_1368 (by decide) ?_
  refine lv_iadd hx hb dL_law_1369 ?_
  refine lv_topi (fun t1 et1 => ?_)
  have at1 : t1.toInt = i.toInt + 1 := by rw [et1]; exact tI_add rfl (rfl : (1 : Int32).toInt = _) (by show _ ≤ i.toInt + (1 : Int); omega) (by show i.toInt + (1 : Int) < _; omega)
  refine va_sld hx hb hX hbl hbA hS (show vp_in t1 L from vi_of (by omega) (by omega)) dL_law_1370 ?_
  refine lv_topi (fun a1 ea1 => ?_)
  have hDx := dl_left hD
  have hDm := dl_right hD
  have hFx := fr_all hDx hS hA
  refine va_calli (va_runV (As := [.int a1]) (rest := []) ⟨hx, hb, hml, hown, hts⟩ (qx_gain l dC dI cs adx mux okx H hPx (hDx.weaken (fun _ _ _ _ => trivial)) a1) (cwV 1 hts (wL_V mw_4_150 mw_4_147 mw_4_148 mw_4_149 mw_1_1) rfl rfl rfl (by decide +kernel) ⟨Nat.le_of_ble_eq_true rfl, Nat.le_of_ble_eq_true rfl⟩) ⟨sz_c, va_recv hKx hPx (ci := 11) (q0 := 0) rfl (gX_0 cs adx mux), sz_m hKx hz⟩ rfl rfl hl.1 rfl (lv_room (Nat.le_of_ble_eq_true rfl)) dL_law_1371 ⟨Nat.le_of_ble_eq_true rfl, Nat.le_of_ble_eq_true rfl⟩) hS (fun q _ h => hFx q h) hFx (fun r1 xi1 t H1 locs ht hvm hw1 hB hz1 hk1 hS => ?_)
  obtain ⟨hfe1, okx, hw1, hkp1⟩ := hw1
  have hPx : va_P (dC, dI) vwCl (wR 157 adx (EX cs adx) xi1) H1 := by rw [← ht]; exact hB
  have hPm := kp_rest hD hPm hk1
  have hD : va_D (fun q : Nat => s.heap.size ≤ q) ((wR 157 adx (EX cs adx) xi1) ++ (wR 21 adm (EM cs adm) mum)) := wR_DD _ _ hD
  refine lv_pop hx hb dL_law_1374 rfl ?_
  refine lv_aload_n hx hb dL_law_1375 rfl (lv_at hl 1 rfl) ?_
  refine lv_aload_n hx hb dL_law_1376 rfl (lv_at hl 3 rfl) ?_
  refine lv_iload_n hx hb dL_law_1377 rfl (lv_at hl 0 rfl) ?_
  refine lv_iconst (v := 1) hx hb dL_law_1378 (by decide) ?_
  refine lv_iadd hx hb dL_law_1379 ?_
  refine lq_i t1 et1.symm ?_
  refine va_sld hx hb hX hbl hbA hS (show vp_in t1 L from vi_of (by omega) (by omega)) dL_law_1380 ?_
  refine lq_i a1 ea1.symm ?_
  have hDx := dl_left hD
  have hDm := dl_right hD
  have hFm := fr_all hDm hS hA
  refine va_calli (va_runV (As := [.int a1]) (rest := []) ⟨hx, hb, hml, hown, hts⟩ (qm_gain l dC dI cs adm mum okm H1 hPm (hDm.weaken (fun _ _ _ _ => trivial)) a1) (cwV 1 hts (wL_V mw_7_8 mw_7_5 mw_7_6 mw_7_7 mw_1_13) rfl rfl rfl (by decide +kernel) ⟨Nat.le_of_ble_eq_true rfl, Nat.le_of_ble_eq_true rfl⟩) ⟨sz_c, va_recv hKm hPm (ci := 12) (q0 := 0) rfl (gM_0 cs adm mum), sz_m hKm hz⟩ rfl rfl hl.1 rfl (lv_room (Nat.le_of_ble_eq_true rfl)) dL_law_1381 ⟨Nat.le_of_ble_eq_true rfl, Nat.le_of_ble_eq_true rfl⟩) hS (fun q _ h => hFm q h) hFm (fun r2 xi2 t H2 locs ht hvm hw2 hB hz1 hk1 hS => ?_)
  obtain ⟨hfe2, okm, hw2, hkp2⟩ := hw2
  have hPm : va_P (dC, dI) vwCl (wR 21 adm (EM cs adm) xi2) H2 := by rw [← ht]; exact hB
  have hPx := kp_rest (pm_D List.perm_append_comm hD) hPx hk1
  have hD : va_D (fun q : Nat => s.heap.size ≤ q) ((wR 157 adx (EX cs adx) xi1) ++ (wR 21 adm (EM cs adm) xi2)) := wR_DD _ _ hD
  refine lv_pop hx hb dL_law_1384 rfl ?_
  refine lv_goto (tgt := 1641) hx hb dL_law_1385 (by decide) ?_
  exact KE xi1 xi2 _ _ _ ⟨okx, okm, ⟨simT_keep (by decide) (by decide) hkp1 hkp2 hsim.1, core_keep okm0 (by decide) (by decide) hkp1 hkp2 hsim.2.1, mon_le (mon_keep (by decide) hkp2 hsim.2.2) (by omega)⟩, hPx, hPm, hD, hS, hl⟩
set_option maxHeartbeats 4000000 in
set_option maxRecDepth 100000 in
theorem le_38 {p : Program} {e : Env} {s : State} {m : MethodId} {below : List Frame} {meth : Method} {c : Code} (l : Launch) {b L : Nat} {xs : Nat → Int32} {dC : Nat → ClassId} {dI : Nat → Nat → Nat} {cs : Nat → ClassId} {tt : Nat} {adx adm : Nat → Nat} {i : Int32} {cc : Int} (F1 : lw_F p s m meth c b L xs dC dI cs tt) {mux mum : Nat → Nat → Int32} {H : Heap} {locs : List Loc} {ls : Array Slot} (J0 : lw_J s b dC dI cs adx adm i cc mux mum H locs ls) (hL : L ≤ 384) (hcc : 1000 ≤ cc ∧ cc ≤ 900000) (hi : 0 ≤ i.toInt ∧ i.toInt + 6 ≤ L) (KE : ∀ (mux mum : Nat → Nat → Int32) (H : Heap) (locs : List Loc) (ls : Array Slot), lw_J s b dC dI cs adx adm i (cc + 1000) mux mum H locs ls → W p l e room_1 s m #[Value.ref b] below meth c H locs 178 3099 (lw_Z below #[Value.ref b] s) (F0 m 1641 ls [])) : W p l e room_1 s m #[Value.ref b] below meth c H locs 178 3099 (lw_Z below #[Value.ref b] s) (F0 m 1388 ls []) := by
  have F2 := F1
  have J1 := J0
  obtain ⟨C0, hKx, hKm, hz, hks⟩ := F1
  obtain ⟨hx, hb, hr, hml, hown0, hts0, hX, hbl, hlocks, hgv⟩ := C0
  obtain ⟨okx, okm, hsim, hPx, hPm, hD, hS, hl⟩ := J0
  have okx0 := okx
  have okm0 := okm
  have hown : s.vm.findClass RL = some m.cls := hown0
  have hts := hts0
  have hbA : ¬ (fun q : Nat => s.heap.size ≤ q) b := Nat.not_le.mpr hbl
  have hA : ∀ q : Nat, s.heap.size ≤ q → (fun q : Nat => s.heap.size ≤ q) q := fun _ h => h
  refine lv_aload_n hx hb dL_law_1388 rfl (lv_at hl 2 rfl) ?_
  refine lv_aload_n hx hb dL_law_1389 rfl (lv_at hl 3 rfl) ?_
  refine lv_iload_n hx hb dL_law_1390 rfl (lv_at hl 0 rfl) ?_
  refine lv_iconst (v := 1) hx hb dL_law_1391 (by decide) ?_
  refine lv_iadd hx hb dL_law_1392 ?_
  refine lv_topi (fun t1 et1 => ?_)
  have at1 : t1.toInt = i.toInt + 1 := by rw [et1]; exact tI_add rfl (rfl : (1 : Int32).toInt = _) (by show _ ≤ i.toInt + (1 : Int); omega) (by show i.toInt + (1 : Int) < _; omega)
  refine va_sld hx hb hX hbl hbA hS (show vp_in t1 L from vi_of (by omega) (by omega)) dL_law_1393 ?_
  refine lv_topi (fun a1 ea1 => ?_)
  refine lv_aload_n hx hb dL_law_1394 rfl (lv_at hl 3 rfl) ?_
  refine lv_iload_n hx hb dL_law_1395 rfl (lv_at hl 0 rfl) ?_
  refine lv_iconst (v := 2) hx hb dL_law_1396 (by decide) ?_
  refine lv_iadd hx hb dL_law_1397 ?_
  refine lv_topi (fun t2 et2 => ?_)
  have at2 : t2.toInt = i.toInt + 2 := by rw [et2]; exact tI_add rfl (rfl : (2 : Int32).toInt = _) (by show _ ≤ i.toInt + (2 : Int); omega) (by show i.toInt + (2 : Int) < _; omega)
  refine va_sld hx hb hX hbl hbA hS (show vp_in t2 L from vi_of (by omega) (by omega)) dL_law_1398 ?_
  refine lv_topi (fun a2 ea2 => ?_)
  have hDx := dl_left hD
  have hDm := dl_right hD
  have hFx := fr_all hDx hS hA
  refine va_calli (va_runV (As := [.int a1, .int a2]) (rest := []) ⟨hx, hb, hml, hown, hts⟩ (qx_had l dC dI cs adx mux okx H hPx (hDx.weaken (fun _ _ _ _ => trivial)) a1 a2) (cwV 2 hts (wL_V mw_4_158 mw_4_155 mw_4_156 mw_4_157 mw_1_1) rfl rfl rfl (by decide +kernel) ⟨Nat.le_of_ble_eq_true rfl, Nat.le_of_ble_eq_true rfl⟩) ⟨sz_c, va_recv hKx hPx (ci := 11) (q0 := 0) rfl (gX_0 cs adx mux), sz_m hKx hz⟩ rfl rfl hl.1 rfl (lv_room (Nat.le_of_ble_eq_true rfl)) dL_law_1399 ⟨Nat.le_of_ble_eq_true rfl, Nat.le_of_ble_eq_true rfl⟩) hS (fun q _ h => hFx q h) hFx (fun r1 xi1 t H1 locs ht hvm hw1 hB hz1 hk1 hS => ?_)
  obtain ⟨okx, hw1, hkp1⟩ := hw1
  have hPx : va_P (dC, dI) vwCl (wR 157 adx (EX cs adx) xi1) H1 := by rw [← ht]; exact hB
  have hPm := kp_rest hD hPm hk1
  have hD : va_D (fun q : Nat => s.heap.size ≤ q) ((wR 157 adx (EX cs adx) xi1) ++ (wR 21 adm (EM cs adm) mum)) := wR_DD _ _ hD
  refine lv_pop hx hb dL_law_1402 rfl ?_
  refine lv_aload_n hx hb dL_law_1403 rfl (lv_at hl 1 rfl) ?_
  refine lv_aload_n hx hb dL_law_1404 rfl (lv_at hl 3 rfl) ?_
  refine lv_iload_n hx hb dL_law_1405 rfl (lv_at hl 0 rfl) ?_
  refine lv_iconst (v := 1) hx hb dL_law_1406 (by decide) ?_
  refine lv_iadd hx hb dL_law_1407 ?_
  refine lq_i t1 et1.symm ?_
  refine va_sld hx hb hX hbl hbA hS (show vp_in t1 L from vi_of (by omega) (by omega)) dL_law_1408 ?_
  refine lq_i a1 ea1.symm ?_
  refine lv_aload_n hx hb dL_law_1409 rfl (lv_at hl 3 rfl) ?_
  refine lv_iload_n hx hb dL_law_1410 rfl (lv_at hl 0 rfl) ?_
  refine lv_iconst (v := 2) hx hb dL_law_1411 (by decide) ?_
  refine lv_iadd hx hb dL_law_1412 ?_
  refine lq_i t2 et2.symm ?_
  refine va_sld hx hb hX hbl hbA hS (show vp_in t2 L from vi_of (by omega) (by omega)) dL_law_1413 ?_
  refine lq_i a2 ea2.symm ?_
  have hDx := dl_left hD
  have hDm := dl_right hD
  have hFm := fr_all hDm hS hA
  refine va_calli (va_runV (As := [.int a1, .int a2]) (rest := []) ⟨hx, hb, hml, hown, hts⟩ (qm_had l dC dI cs adm mum okm H1 hPm (hDm.weaken (fun _ _ _ _ => trivial)) a1 a2) (cwV 2 hts (wL_V mw_7_16 mw_7_13 mw_7_14 mw_7_15 mw_1_13) rfl rfl rfl (by decide +kernel) ⟨Nat.le_of_ble_eq_true rfl, Nat.le_of_ble_eq_true rfl⟩) ⟨sz_c, va_recv hKm hPm (ci := 12) (q0 := 0) rfl (gM_0 cs adm mum), sz_m hKm hz⟩ rfl rfl hl.1 rfl (lv_room (Nat.le_of_ble_eq_true rfl)) dL_law_1414 ⟨Nat.le_of_ble_eq_true rfl, Nat.le_of_ble_eq_true rfl⟩) hS (fun q _ h => hFm q h) hFm (fun r2 xi2 t H2 locs ht hvm hw2 hB hz1 hk1 hS => ?_)
  obtain ⟨okm, hw2, hkp2⟩ := hw2
  have hPm : va_P (dC, dI) vwCl (wR 21 adm (EM cs adm) xi2) H2 := by rw [← ht]; exact hB
  have hPx := kp_rest (pm_D List.perm_append_comm hD) hPx hk1
  have hD : va_D (fun q : Nat => s.heap.size ≤ q) ((wR 157 adx (EX cs adx) xi1) ++ (wR 21 adm (EM cs adm) xi2)) := wR_DD _ _ hD
  refine lv_pop hx hb dL_law_1417 rfl ?_
  refine lv_goto (tgt := 1641) hx hb dL_law_1418 (by decide) ?_
  exact KE xi1 xi2 _ _ _ ⟨okx, okm, ⟨simT_keep (by decide) (by decide) hkp1 hkp2 hsim.1, core_keep okm0 (by decide) (by decide) hkp1 hkp2 hsim.2.1, mon_le (mon_keep (by decide) hkp2 hsim.2.2) (by omega)⟩, hPx, hPm, hD, hS, hl⟩
theorem mw_4_182 : (Cond.code yX11_sure cX11_sure 4 (some .int) : Cond) ∈ lw_good := lg_at 4 182 rfl rfl
theorem mw_4_179 : (Cond.methodLink RL 174 yX11_sure : Cond) ∈ lw_good := lg_at 4 179 rfl rfl
theorem mw_4_180 : (Cond.instanceMethod yX11_sure : Cond) ∈ lw_good := lg_at 4 180 rfl rfl
theorem mw_4_181 : (Cond.selects RX11 yX11_sure yX11_sure : Cond) ∈ lw_good := lg_at 4 181 rfl rfl
theorem mw_7_28 : (Cond.code yX12_sure cX12_sure 4 (some .int) : Cond) ∈ lw_good := lg_at 7 28 rfl rfl
theorem mw_7_25 : (Cond.methodLink RL 177 yX12_sure : Cond) ∈ lw_good := lg_at 7 25 rfl rfl
theorem mw_7_26 : (Cond.instanceMethod yX12_sure : Cond) ∈ lw_good := lg_at 7 26 rfl rfl
theorem mw_7_27 : (Cond.selects RX12 yX12_sure yX12_sure : Cond) ∈ lw_good := lg_at 7 27 rfl rfl
theorem mw_4_186 : (Cond.code yX11_first cX11_first 6 (some .int) : Cond) ∈ lw_good := lg_at 4 186 rfl rfl
theorem mw_4_183 : (Cond.methodLink RL 178 yX11_first : Cond) ∈ lw_good := lg_at 4 183 rfl rfl
theorem mw_4_184 : (Cond.instanceMethod yX11_first : Cond) ∈ lw_good := lg_at 4 184 rfl rfl
theorem mw_4_185 : (Cond.selects RX11 yX11_first yX11_first : Cond) ∈ lw_good := lg_at 4 185 rfl rfl
theorem mw_7_32 : (Cond.code yX12_first cX12_first 6 (some .int) : Cond) ∈ lw_good := lg_at 7 32 rfl rfl
theorem mw_7_29 : (Cond.methodLink RL 181 yX12_first : Cond) ∈ lw_good := lg_at 7 29 rfl rfl
theorem mw_7_30 : (Cond.instanceMethod yX12_first : Cond) ∈ lw_good := lg_at 7 30 rfl rfl
theorem mw_7_31 : (Cond.selects RX12 yX12_first yX12_first : Cond) ∈ lw_good := lg_at 7 31 rfl rfl
theorem mw_4_190 : (Cond.code yX11_luck cX11_luck 10 (some .int) : Cond) ∈ lw_good := lg_at 4 190 rfl rfl
theorem mw_4_187 : (Cond.methodLink RL 182 yX11_luck : Cond) ∈ lw_good := lg_at 4 187 rfl rfl
theorem mw_4_188 : (Cond.instanceMethod yX11_luck : Cond) ∈ lw_good := lg_at 4 188 rfl rfl
theorem mw_4_189 : (Cond.selects RX11 yX11_luck yX11_luck : Cond) ∈ lw_good := lg_at 4 189 rfl rfl
theorem mw_7_36 : (Cond.code yX12_luck cX12_luck 11 (some .int) : Cond) ∈ lw_good := lg_at 7 36 rfl rfl
theorem mw_7_33 : (Cond.methodLink RL 185 yX12_luck : Cond) ∈ lw_good := lg_at 7 33 rfl rfl
theorem mw_7_34 : (Cond.instanceMethod yX12_luck : Cond) ∈ lw_good := lg_at 7 34 rfl rfl
theorem mw_7_35 : (Cond.selects RX12 yX12_luck yX12_luck : Cond) ∈ lw_good := lg_at 7 35 rfl rfl
theorem mw_4_199 : (Cond.code yX11_asked cX11_asked 1 (some .int) : Cond) ∈ lw_good := lg_at 4 199 rfl rfl
theorem mw_4_196 : (Cond.methodLink RL 186 yX11_asked : Cond) ∈ lw_good := lg_at 4 196 rfl rfl
theorem mw_4_197 : (Cond.instanceMethod yX11_asked : Cond) ∈ lw_good := lg_at 4 197 rfl rfl
theorem mw_4_198 : (Cond.selects RX11 yX11_asked yX11_asked : Cond) ∈ lw_good := lg_at 4 198 rfl rfl
theorem mw_7_43 : (Cond.code yX12_asked cX12_asked 1 (some .int) : Cond) ∈ lw_good := lg_at 7 43 rfl rfl
theorem mw_7_40 : (Cond.methodLink RL 190 yX12_asked : Cond) ∈ lw_good := lg_at 7 40 rfl rfl
theorem mw_7_41 : (Cond.instanceMethod yX12_asked : Cond) ∈ lw_good := lg_at 7 41 rfl rfl
theorem mw_7_42 : (Cond.selects RX12 yX12_asked yX12_asked : Cond) ∈ lw_good := lg_at 7 42 rfl rfl
theorem mw_4_203 : (Cond.code yX11_upper cX11_upper 3 (some .long) : Cond) ∈ lw_good := lg_at 4 203 rfl rfl
theorem mw_4_200 : (Cond.methodLink RL 191 yX11_upper : Cond) ∈ lw_good := lg_at 4 200 rfl rfl
theorem mw_4_201 : (Cond.instanceMethod yX11_upper : Cond) ∈ lw_good := lg_at 4 201 rfl rfl
theorem mw_4_202 : (Cond.selects RX11 yX11_upper yX11_upper : Cond) ∈ lw_good := lg_at 4 202 rfl rfl
theorem mw_7_47 : (Cond.code yX12_upper cX12_upper 2 (some .long) : Cond) ∈ lw_good := lg_at 7 47 rfl rfl
theorem mw_7_44 : (Cond.methodLink RL 195 yX12_upper : Cond) ∈ lw_good := lg_at 7 44 rfl rfl
theorem mw_7_45 : (Cond.instanceMethod yX12_upper : Cond) ∈ lw_good := lg_at 7 45 rfl rfl
theorem mw_7_46 : (Cond.selects RX12 yX12_upper yX12_upper : Cond) ∈ lw_good := lg_at 7 46 rfl rfl
theorem mw_4_221 : (Cond.code yX11_lower cX11_lower 3 (some .long) : Cond) ∈ lw_good := lg_at 4 221 rfl rfl
theorem mw_4_218 : (Cond.methodLink RL 196 yX11_lower : Cond) ∈ lw_good := lg_at 4 218 rfl rfl
theorem mw_4_219 : (Cond.instanceMethod yX11_lower : Cond) ∈ lw_good := lg_at 4 219 rfl rfl
theorem mw_4_220 : (Cond.selects RX11 yX11_lower yX11_lower : Cond) ∈ lw_good := lg_at 4 220 rfl rfl
theorem mw_7_62 : (Cond.code yX12_lower cX12_lower 2 (some .long) : Cond) ∈ lw_good := lg_at 7 62 rfl rfl
theorem mw_7_59 : (Cond.methodLink RL 199 yX12_lower : Cond) ∈ lw_good := lg_at 7 59 rfl rfl
theorem mw_7_60 : (Cond.instanceMethod yX12_lower : Cond) ∈ lw_good := lg_at 7 60 rfl rfl
theorem mw_7_61 : (Cond.selects RX12 yX12_lower yX12_lower : Cond) ∈ lw_good := lg_at 7 61 rfl rfl
theorem mw_4_222 : (Cond.methodLink RL 200 yX11_count : Cond) ∈ lw_good := lg_at 4 222 rfl rfl
theorem mw_7_66 : (Cond.code yX12_count cX12_count 2 (some .int) : Cond) ∈ lw_good := lg_at 7 66 rfl rfl
theorem mw_7_63 : (Cond.methodLink RL 203 yX12_count : Cond) ∈ lw_good := lg_at 7 63 rfl rfl
theorem mw_7_64 : (Cond.instanceMethod yX12_count : Cond) ∈ lw_good := lg_at 7 64 rfl rfl
theorem mw_7_65 : (Cond.selects RX12 yX12_count yX12_count : Cond) ∈ lw_good := lg_at 7 65 rfl rfl
theorem mw_5_1 : (Cond.code yX11_finding cX11_finding 1 (some .int) : Cond) ∈ lw_good := lg_at 5 1 rfl rfl
theorem mw_4_238 : (Cond.methodLink RL 204 yX11_finding : Cond) ∈ lw_good := lg_at 4 238 rfl rfl
theorem mw_4_239 : (Cond.instanceMethod yX11_finding : Cond) ∈ lw_good := lg_at 4 239 rfl rfl
theorem mw_5_0 : (Cond.selects RX11 yX11_finding yX11_finding : Cond) ∈ lw_good := lg_at 5 0 rfl rfl
theorem mw_7_74 : (Cond.code yX12_finding cX12_finding 1 (some .int) : Cond) ∈ lw_good := lg_at 7 74 rfl rfl
theorem mw_7_71 : (Cond.methodLink RL 207 yX12_finding : Cond) ∈ lw_good := lg_at 7 71 rfl rfl
theorem mw_7_72 : (Cond.instanceMethod yX12_finding : Cond) ∈ lw_good := lg_at 7 72 rfl rfl
theorem mw_7_73 : (Cond.selects RX12 yX12_finding yX12_finding : Cond) ∈ lw_good := lg_at 7 73 rfl rfl
theorem mw_5_5 : (Cond.code yX11_findings cX11_findings 2 (some .int) : Cond) ∈ lw_good := lg_at 5 5 rfl rfl
theorem mw_5_2 : (Cond.methodLink RL 208 yX11_findings : Cond) ∈ lw_good := lg_at 5 2 rfl rfl
theorem mw_5_3 : (Cond.instanceMethod yX11_findings : Cond) ∈ lw_good := lg_at 5 3 rfl rfl
theorem mw_5_4 : (Cond.selects RX11 yX11_findings yX11_findings : Cond) ∈ lw_good := lg_at 5 4 rfl rfl
theorem mw_7_78 : (Cond.code yX12_findings cX12_findings 2 (some .int) : Cond) ∈ lw_good := lg_at 7 78 rfl rfl
theorem mw_7_75 : (Cond.methodLink RL 211 yX12_findings : Cond) ∈ lw_good := lg_at 7 75 rfl rfl
theorem mw_7_76 : (Cond.instanceMethod yX12_findings : Cond) ∈ lw_good := lg_at 7 76 rfl rfl
theorem mw_7_77 : (Cond.selects RX12 yX12_findings yX12_findings : Cond) ∈ lw_good := lg_at 7 77 rfl rfl
theorem mw_5_9 : (Cond.code yX11_digest cX11_digest 4 (some .long) : Cond) ∈ lw_good := lg_at 5 9 rfl rfl
theorem mw_5_6 : (Cond.methodLink RL 212 yX11_digest : Cond) ∈ lw_good := lg_at 5 6 rfl rfl
theorem mw_5_7 : (Cond.instanceMethod yX11_digest : Cond) ∈ lw_good := lg_at 5 7 rfl rfl
theorem mw_5_8 : (Cond.selects RX11 yX11_digest yX11_digest : Cond) ∈ lw_good := lg_at 5 8 rfl rfl
theorem mw_7_82 : (Cond.code yX12_digest cX12_digest 3 (some .long) : Cond) ∈ lw_good := lg_at 7 82 rfl rfl
theorem mw_7_79 : (Cond.methodLink RL 215 yX12_digest : Cond) ∈ lw_good := lg_at 7 79 rfl rfl
theorem mw_7_80 : (Cond.instanceMethod yX12_digest : Cond) ∈ lw_good := lg_at 7 80 rfl rfl
theorem mw_7_81 : (Cond.selects RX12 yX12_digest yX12_digest : Cond) ∈ lw_good := lg_at 7 81 rfl rfl
