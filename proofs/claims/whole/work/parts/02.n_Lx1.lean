theorem d_La_law_1139 : decode code 1139 = .ok (.iconst 0, 1) := by decide +kernel
theorem d_La_law_1140 : decode code 1140 = .ok (.ireturn, 1) := by decide +kernel
theorem d_La_law_1141 : decode code 1141 = .ok (.iload 5, 2) := by decide +kernel
theorem d_La_law_1143 : decode code 1143 = .ok (.ifCond .ne 22, 3) := by decide +kernel
theorem d_La_law_1146 : decode code 1146 = .ok (.aload_n 3, 1) := by decide +kernel
theorem d_La_law_1147 : decode code 1147 = .ok (.iconst 0, 1) := by decide +kernel
theorem d_La_law_1148 : decode code 1148 = .ok (.laload, 1) := by decide +kernel
theorem d_La_law_1149 : decode code 1149 = .ok (.iload 6, 2) := by decide +kernel
theorem d_La_law_1151 : decode code 1151 = .ok (.ifCond .eq 7, 3) := by decide +kernel
theorem d_La_law_1154 : decode code 1154 = .ok (.lconst 1, 1) := by decide +kernel
theorem d_La_law_1155 : decode code 1155 = .ok (.goto 4, 3) := by decide +kernel
theorem d_La_law_1158 : decode code 1158 = .ok (.lconst 0, 1) := by decide +kernel
theorem d_La_law_1159 : decode code 1159 = .ok (.lcmp, 1) := by decide +kernel
theorem d_La_law_1160 : decode code 1160 = .ok (.ifCond .eq 5, 3) := by decide +kernel
theorem d_La_law_1163 : decode code 1163 = .ok (.iconst 0, 1) := by decide +kernel
theorem d_La_law_1164 : decode code 1164 = .ok (.ireturn, 1) := by decide +kernel
theorem d_La_law_1165 : decode code 1165 = .ok (.goto 52, 3) := by decide +kernel
theorem d_La_law_1168 : decode code 1168 = .ok (.aload_n 1, 1) := by decide +kernel
theorem d_La_law_1169 : decode code 1169 = .ok (.invokevirtual 125, 3) := by decide +kernel
theorem d_La_law_1172 : decode code 1172 = .ok (.aload_n 2, 1) := by decide +kernel
theorem d_La_law_1173 : decode code 1173 = .ok (.invokevirtual 128, 3) := by decide +kernel
theorem d_La_law_1176 : decode code 1176 = .ok (.if_icmp .eq 41, 3) := by decide +kernel
theorem d_La_law_1179 : decode code 1179 = .ok (.iconst 0, 1) := by decide +kernel
theorem d_La_law_1180 : decode code 1180 = .ok (.ireturn, 1) := by decide +kernel
theorem d_La_law_1181 : decode code 1181 = .ok (.aload_n 1, 1) := by decide +kernel
theorem d_La_law_1182 : decode code 1182 = .ok (.aload_n 0, 1) := by decide +kernel
theorem d_La_law_1183 : decode code 1183 = .ok (.iload 4, 2) := by decide +kernel
theorem d_La_law_1185 : decode code 1185 = .ok (.iconst 1, 1) := by decide +kernel
theorem d_La_law_1186 : decode code 1186 = .ok (.iadd, 1) := by decide +kernel
theorem d_La_law_1187 : decode code 1187 = .ok (.iaload, 1) := by decide +kernel
theorem d_La_law_1188 : decode code 1188 = .ok (.invokevirtual 129, 3) := by decide +kernel
theorem d_La_law_1191 : decode code 1191 = .ok (.aload_n 2, 1) := by decide +kernel
theorem d_La_law_1192 : decode code 1192 = .ok (.aload_n 0, 1) := by decide +kernel
theorem d_La_law_1193 : decode code 1193 = .ok (.iload 4, 2) := by decide +kernel
theorem d_La_law_1195 : decode code 1195 = .ok (.iconst 1, 1) := by decide +kernel
theorem d_La_law_1196 : decode code 1196 = .ok (.iadd, 1) := by decide +kernel
theorem d_La_law_1197 : decode code 1197 = .ok (.iaload, 1) := by decide +kernel
theorem d_La_law_1198 : decode code 1198 = .ok (.invokevirtual 132, 3) := by decide +kernel
theorem d_La_law_1201 : decode code 1201 = .ok (.if_icmp .eq 16, 3) := by decide +kernel
theorem d_La_law_1204 : decode code 1204 = .ok (.iconst 0, 1) := by decide +kernel
theorem d_La_law_1205 : decode code 1205 = .ok (.ireturn, 1) := by decide +kernel
theorem d_La_law_1206 : decode code 1206 = .ok (.aload_n 1, 1) := by decide +kernel
theorem d_La_law_1207 : decode code 1207 = .ok (.invokevirtual 133, 3) := by decide +kernel
theorem d_La_law_1210 : decode code 1210 = .ok (.aload_n 2, 1) := by decide +kernel
theorem d_La_law_1211 : decode code 1211 = .ok (.invokevirtual 136, 3) := by decide +kernel
theorem d_La_law_1214 : decode code 1214 = .ok (.goto 3, 3) := by decide +kernel
theorem d_La_law_1217 : decode code 1217 = .ok (.iinc 4 6, 3) := by decide +kernel
theorem d_La_law_1220 : decode code 1220 = .ok (.goto (-1197), 3) := by decide +kernel
theorem d_La_law_1223 : decode code 1223 = .ok (.iconst 1, 1) := by decide +kernel
theorem d_La_law_1224 : decode code 1224 = .ok (.ireturn, 1) := by decide +kernel
