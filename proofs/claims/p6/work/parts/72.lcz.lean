theorem dL_law_212 : decode cL_law 212 = .ok (.invokevirtual 17, 3) := by decide +kernel
theorem dL_law_245 : decode cL_law 245 = .ok (.invokevirtual 22, 3) := by decide +kernel
theorem dL_law_288 : decode cL_law 288 = .ok (.invokevirtual 27, 3) := by decide +kernel
theorem dL_law_321 : decode cL_law 321 = .ok (.invokevirtual 31, 3) := by decide +kernel
theorem dL_law_353 : decode cL_law 353 = .ok (.invokevirtual 35, 3) := by decide +kernel
theorem dL_law_433 : decode cL_law 433 = .ok (.invokevirtual 40, 3) := by decide +kernel
theorem dL_law_496 : decode cL_law 496 = .ok (.invokevirtual 45, 3) := by decide +kernel
theorem dL_law_549 : decode cL_law 549 = .ok (.invokevirtual 50, 3) := by decide +kernel
theorem dL_law_572 : decode cL_law 572 = .ok (.invokevirtual 54, 3) := by decide +kernel
theorem dL_law_605 : decode cL_law 605 = .ok (.invokevirtual 58, 3) := by decide +kernel
theorem dL_law_658 : decode cL_law 658 = .ok (.invokevirtual 62, 3) := by decide +kernel
theorem dL_law_711 : decode cL_law 711 = .ok (.invokevirtual 66, 3) := by decide +kernel
theorem dL_law_744 : decode cL_law 744 = .ok (.invokevirtual 70, 3) := by decide +kernel
theorem dL_law_787 : decode cL_law 787 = .ok (.invokevirtual 74, 3) := by decide +kernel
theorem dL_law_830 : decode cL_law 830 = .ok (.invokevirtual 78, 3) := by decide +kernel
theorem dL_law_863 : decode cL_law 863 = .ok (.invokevirtual 82, 3) := by decide +kernel
theorem dL_law_942 : decode cL_law 942 = .ok (.invokevirtual 86, 3) := by decide +kernel
theorem dL_law_1011 : decode cL_law 1011 = .ok (.invokevirtual 91, 3) := by decide +kernel
theorem dL_law_1034 : decode cL_law 1034 = .ok (.invokevirtual 95, 3) := by decide +kernel
theorem dL_law_1067 : decode cL_law 1067 = .ok (.invokevirtual 99, 3) := by decide +kernel
theorem dL_law_1090 : decode cL_law 1090 = .ok (.invokevirtual 103, 3) := by decide +kernel
theorem dL_law_1133 : decode cL_law 1133 = .ok (.invokevirtual 107, 3) := by decide +kernel
theorem dL_law_1176 : decode cL_law 1176 = .ok (.invokevirtual 111, 3) := by decide +kernel
theorem dL_law_1219 : decode cL_law 1219 = .ok (.invokevirtual 115, 3) := by decide +kernel
theorem dL_law_1242 : decode cL_law 1242 = .ok (.invokevirtual 119, 3) := by decide +kernel
theorem dL_law_1285 : decode cL_law 1285 = .ok (.invokevirtual 124, 3) := by decide +kernel
theorem dL_law_1328 : decode cL_law 1328 = .ok (.invokevirtual 128, 3) := by decide +kernel
theorem dL_law_1371 : decode cL_law 1371 = .ok (.invokevirtual 132, 3) := by decide +kernel
theorem dL_law_1414 : decode cL_law 1414 = .ok (.invokevirtual 136, 3) := by decide +kernel
theorem dL_law_1457 : decode cL_law 1457 = .ok (.invokevirtual 140, 3) := by decide +kernel
theorem dL_law_1490 : decode cL_law 1490 = .ok (.invokevirtual 144, 3) := by decide +kernel
theorem dL_law_1533 : decode cL_law 1533 = .ok (.invokevirtual 148, 3) := by decide +kernel
theorem dL_law_1576 : decode cL_law 1576 = .ok (.invokevirtual 152, 3) := by decide +kernel
theorem dL_law_1639 : decode cL_law 1639 = .ok (.invokevirtual 159, 3) := by decide +kernel
theorem dL_law_1662 : decode cL_law 1662 = .ok (.invokevirtual 163, 3) := by decide +kernel
theorem dL_law_1675 : decode cL_law 1675 = .ok (.invokevirtual 168, 3) := by decide +kernel
theorem dL_law_1688 : decode cL_law 1688 = .ok (.invokevirtual 172, 3) := by decide +kernel
theorem wd_1079 : Cond.methodLink RL 17 yX13_house ∈ lw_good := mem_t6 122 (by decide +kernel) rfl
theorem wd_1080 : Cond.instanceMethod yX13_house ∈ lw_good := mem_t6 123 (by decide +kernel) rfl
theorem wd_1081 : Cond.selects RX13 yX13_house yX13_house ∈ lw_good := mem_t6 124 (by decide +kernel) rfl
theorem wd_1082 : Cond.code yX13_house cX13_house 4 (some .int) ∈ lw_good := mem_t6 125 rfl rfl
theorem wd_1083 : Cond.methodLink RL 22 yX13_partner ∈ lw_good := mem_t6 134 (by decide +kernel) rfl
theorem wd_1084 : Cond.instanceMethod yX13_partner ∈ lw_good := mem_t6 135 (by decide +kernel) rfl
theorem wd_1085 : Cond.selects RX13 yX13_partner yX13_partner ∈ lw_good := mem_t6 136 (by decide +kernel) rfl
theorem wd_1086 : Cond.code yX13_partner cX13_partner 4 (some .int) ∈ lw_good := mem_t6 137 rfl rfl
theorem wd_1087 : Cond.methodLink RL 27 yX13_letter ∈ lw_good := mem_t6 143 (by decide +kernel) rfl
theorem wd_1088 : Cond.instanceMethod yX13_letter ∈ lw_good := mem_t6 144 (by decide +kernel) rfl
theorem wd_1089 : Cond.selects RX13 yX13_letter yX13_letter ∈ lw_good := mem_t6 145 (by decide +kernel) rfl
theorem wd_1090 : Cond.code yX13_letter cX13_letter 5 (some .int) ∈ lw_good := mem_t6 146 rfl rfl
theorem wd_1091 : Cond.methodLink RL 31 yX13_unseal ∈ lw_good := mem_t6 156 (by decide +kernel) rfl
theorem wd_1092 : Cond.instanceMethod yX13_unseal ∈ lw_good := mem_t6 157 (by decide +kernel) rfl
theorem wd_1093 : Cond.selects RX13 yX13_unseal yX13_unseal ∈ lw_good := mem_t6 158 (by decide +kernel) rfl
theorem wd_1094 : Cond.code yX13_unseal cX13_unseal 5 (some .int) ∈ lw_good := mem_t6 159 rfl rfl
theorem wd_1095 : Cond.methodLink RL 35 yX13_holds ∈ lw_good := mem_t6 160 (by decide +kernel) rfl
theorem wd_1096 : Cond.instanceMethod yX13_holds ∈ lw_good := mem_t6 161 (by decide +kernel) rfl
theorem wd_1097 : Cond.selects RX13 yX13_holds yX13_holds ∈ lw_good := mem_t6 162 (by decide +kernel) rfl
theorem wd_1098 : Cond.code yX13_holds cX13_holds 4 (some .int) ∈ lw_good := mem_t6 163 rfl rfl
theorem wd_1099 : Cond.methodLink RL 40 yX13_join ∈ lw_good := mem_t6 164 (by decide +kernel) rfl
theorem wd_1100 : Cond.instanceMethod yX13_join ∈ lw_good := mem_t6 165 (by decide +kernel) rfl
theorem wd_1101 : Cond.selects RX13 yX13_join yX13_join ∈ lw_good := mem_t6 166 (by decide +kernel) rfl
theorem wd_1102 : Cond.code yX13_join cX13_join 9 (some .int) ∈ lw_good := mem_t6 167 rfl rfl
theorem wd_1103 : Cond.methodLink RL 45 yX13_leave ∈ lw_good := mem_t6 184 (by decide +kernel) rfl
theorem wd_1104 : Cond.instanceMethod yX13_leave ∈ lw_good := mem_t6 185 (by decide +kernel) rfl
theorem wd_1105 : Cond.selects RX13 yX13_leave yX13_leave ∈ lw_good := mem_t6 186 (by decide +kernel) rfl
theorem wd_1106 : Cond.code yX13_leave cX13_leave 8 (some .int) ∈ lw_good := mem_t6 187 rfl rfl
theorem wd_1107 : Cond.methodLink RL 50 yX13_die ∈ lw_good := mem_t6 188 (by decide +kernel) rfl
theorem wd_1108 : Cond.instanceMethod yX13_die ∈ lw_good := mem_t6 189 (by decide +kernel) rfl
theorem wd_1109 : Cond.selects RX13 yX13_die yX13_die ∈ lw_good := mem_t6 190 (by decide +kernel) rfl
theorem wd_1110 : Cond.code yX13_die cX13_die 7 (some .int) ∈ lw_good := mem_t6 191 rfl rfl
theorem wd_1111 : Cond.methodLink RL 54 yX13_circle ∈ lw_good := mem_t6 192 (by decide +kernel) rfl
theorem wd_1112 : Cond.instanceMethod yX13_circle ∈ lw_good := mem_t6 193 (by decide +kernel) rfl
theorem wd_1113 : Cond.selects RX13 yX13_circle yX13_circle ∈ lw_good := mem_t6 194 (by decide +kernel) rfl
theorem wd_1114 : Cond.code yX13_circle cX13_circle 2 (some .int) ∈ lw_good := mem_t6 195 rfl rfl
theorem wd_1115 : Cond.methodLink RL 58 yX13_rule ∈ lw_good := mem_t6 196 (by decide +kernel) rfl
theorem wd_1116 : Cond.instanceMethod yX13_rule ∈ lw_good := mem_t6 197 (by decide +kernel) rfl
theorem wd_1117 : Cond.selects RX13 yX13_rule yX13_rule ∈ lw_good := mem_t6 198 (by decide +kernel) rfl
theorem wd_1118 : Cond.code yX13_rule cX13_rule 7 (some .int) ∈ lw_good := mem_t6 199 rfl rfl
theorem wd_1119 : Cond.methodLink RL 62 yX13_term ∈ lw_good := mem_t6 200 (by decide +kernel) rfl
theorem wd_1120 : Cond.instanceMethod yX13_term ∈ lw_good := mem_t6 201 (by decide +kernel) rfl
theorem wd_1121 : Cond.selects RX13 yX13_term yX13_term ∈ lw_good := mem_t6 202 (by decide +kernel) rfl
theorem wd_1122 : Cond.code yX13_term cX13_term 9 (some .int) ∈ lw_good := mem_t6 203 rfl rfl
theorem wd_1123 : Cond.methodLink RL 66 yX13_leaf ∈ lw_good := mem_t6 208 (by decide +kernel) rfl
theorem wd_1124 : Cond.instanceMethod yX13_leaf ∈ lw_good := mem_t6 209 (by decide +kernel) rfl
theorem wd_1125 : Cond.selects RX13 yX13_leaf yX13_leaf ∈ lw_good := mem_t6 210 (by decide +kernel) rfl
theorem wd_1126 : Cond.code yX13_leaf cX13_leaf 6 (some .int) ∈ lw_good := mem_t6 211 rfl rfl
theorem wd_1127 : Cond.methodLink RL 70 yX13_tear ∈ lw_good := mem_t6 212 (by decide +kernel) rfl
theorem wd_1128 : Cond.instanceMethod yX13_tear ∈ lw_good := mem_t6 213 (by decide +kernel) rfl
theorem wd_1129 : Cond.selects RX13 yX13_tear yX13_tear ∈ lw_good := mem_t6 214 (by decide +kernel) rfl
theorem wd_1130 : Cond.code yX13_tear cX13_tear 5 (some .int) ∈ lw_good := mem_t6 215 rfl rfl
theorem wd_1131 : Cond.methodLink RL 74 yX13_earn ∈ lw_good := mem_t6 216 (by decide +kernel) rfl
theorem wd_1132 : Cond.instanceMethod yX13_earn ∈ lw_good := mem_t6 217 (by decide +kernel) rfl
theorem wd_1133 : Cond.selects RX13 yX13_earn yX13_earn ∈ lw_good := mem_t6 218 (by decide +kernel) rfl
theorem wd_1134 : Cond.code yX13_earn cX13_earn 4 (some .int) ∈ lw_good := mem_t6 219 rfl rfl
theorem wd_1135 : Cond.methodLink RL 78 yX13_spend ∈ lw_good := mem_t6 231 (by decide +kernel) rfl
theorem wd_1136 : Cond.instanceMethod yX13_spend ∈ lw_good := mem_t6 232 (by decide +kernel) rfl
theorem wd_1137 : Cond.selects RX13 yX13_spend yX13_spend ∈ lw_good := mem_t6 233 (by decide +kernel) rfl
theorem wd_1138 : Cond.code yX13_spend cX13_spend 4 (some .int) ∈ lw_good := mem_t6 234 rfl rfl
theorem wd_1139 : Cond.methodLink RL 82 yX13_loose ∈ lw_good := mem_t6 235 (by decide +kernel) rfl
theorem wd_1140 : Cond.instanceMethod yX13_loose ∈ lw_good := mem_t6 236 (by decide +kernel) rfl
theorem wd_1141 : Cond.selects RX13 yX13_loose yX13_loose ∈ lw_good := mem_t6 237 (by decide +kernel) rfl
theorem wd_1142 : Cond.code yX13_loose cX13_loose 6 (some .int) ∈ lw_good := mem_t6 238 rfl rfl
theorem wd_1143 : Cond.methodLink RL 86 yX13_move ∈ lw_good := mem_t7 2 (by decide +kernel) rfl
theorem wd_1144 : Cond.instanceMethod yX13_move ∈ lw_good := mem_t7 3 (by decide +kernel) rfl
theorem wd_1145 : Cond.selects RX13 yX13_move yX13_move ∈ lw_good := mem_t7 4 (by decide +kernel) rfl
theorem wd_1146 : Cond.code yX13_move cX13_move 7 (some .int) ∈ lw_good := mem_t7 5 rfl rfl
theorem wd_1147 : Cond.methodLink RL 91 yX13_lend ∈ lw_good := mem_t7 14 (by decide +kernel) rfl
theorem wd_1148 : Cond.instanceMethod yX13_lend ∈ lw_good := mem_t7 15 (by decide +kernel) rfl
theorem wd_1149 : Cond.selects RX13 yX13_lend yX13_lend ∈ lw_good := mem_t7 16 (by decide +kernel) rfl
theorem wd_1150 : Cond.code yX13_lend cX13_lend 6 (some .int) ∈ lw_good := mem_t7 17 rfl rfl
theorem wd_1151 : Cond.methodLink RL 95 yX13_undo ∈ lw_good := mem_t7 19 (by decide +kernel) rfl
theorem wd_1152 : Cond.instanceMethod yX13_undo ∈ lw_good := mem_t7 20 (by decide +kernel) rfl
theorem wd_1153 : Cond.selects RX13 yX13_undo yX13_undo ∈ lw_good := mem_t7 21 (by decide +kernel) rfl
theorem wd_1154 : Cond.code yX13_undo cX13_undo 4 (some .int) ∈ lw_good := mem_t7 22 rfl rfl
theorem wd_1155 : Cond.methodLink RL 99 yX13_end ∈ lw_good := mem_t7 23 (by decide +kernel) rfl
theorem wd_1156 : Cond.instanceMethod yX13_end ∈ lw_good := mem_t7 24 (by decide +kernel) rfl
theorem wd_1157 : Cond.selects RX13 yX13_end yX13_end ∈ lw_good := mem_t7 25 (by decide +kernel) rfl
theorem wd_1158 : Cond.code yX13_end cX13_end 5 (some .int) ∈ lw_good := mem_t7 26 rfl rfl
theorem wd_1159 : Cond.methodLink RL 103 yX13_close ∈ lw_good := mem_t7 27 (by decide +kernel) rfl
theorem wd_1160 : Cond.instanceMethod yX13_close ∈ lw_good := mem_t7 28 (by decide +kernel) rfl
theorem wd_1161 : Cond.selects RX13 yX13_close yX13_close ∈ lw_good := mem_t7 29 (by decide +kernel) rfl
theorem wd_1162 : Cond.code yX13_close cX13_close 8 (some .int) ∈ lw_good := mem_t7 30 rfl rfl
theorem wd_1163 : Cond.methodLink RL 107 yX13_mend ∈ lw_good := mem_t7 124 (by decide +kernel) rfl
theorem wd_1164 : Cond.instanceMethod yX13_mend ∈ lw_good := mem_t7 125 (by decide +kernel) rfl
theorem wd_1165 : Cond.selects RX13 yX13_mend yX13_mend ∈ lw_good := mem_t7 126 (by decide +kernel) rfl
theorem wd_1166 : Cond.code yX13_mend cX13_mend 5 (some .int) ∈ lw_good := mem_t7 127 rfl rfl
theorem wd_1167 : Cond.methodLink RL 111 yX13_hidden ∈ lw_good := mem_t7 128 (by decide +kernel) rfl
theorem wd_1168 : Cond.instanceMethod yX13_hidden ∈ lw_good := mem_t7 129 (by decide +kernel) rfl
theorem wd_1169 : Cond.selects RX13 yX13_hidden yX13_hidden ∈ lw_good := mem_t7 130 (by decide +kernel) rfl
theorem wd_1170 : Cond.code yX13_hidden cX13_hidden 6 (some .int) ∈ lw_good := mem_t7 131 rfl rfl
theorem wd_1171 : Cond.methodLink RL 115 yX13_bear ∈ lw_good := mem_t7 132 (by decide +kernel) rfl
theorem wd_1172 : Cond.instanceMethod yX13_bear ∈ lw_good := mem_t7 133 (by decide +kernel) rfl
theorem wd_1173 : Cond.selects RX13 yX13_bear yX13_bear ∈ lw_good := mem_t7 134 (by decide +kernel) rfl
theorem wd_1174 : Cond.code yX13_bear cX13_bear 9 (some .int) ∈ lw_good := mem_t7 135 rfl rfl
theorem wd_1175 : Cond.methodLink RL 119 yX13_borne ∈ lw_good := mem_t7 139 (by decide +kernel) rfl
theorem wd_1176 : Cond.instanceMethod yX13_borne ∈ lw_good := mem_t7 140 (by decide +kernel) rfl
theorem wd_1177 : Cond.selects RX13 yX13_borne yX13_borne ∈ lw_good := mem_t7 141 (by decide +kernel) rfl
theorem wd_1178 : Cond.code yX13_borne cX13_borne 2 (some .int) ∈ lw_good := mem_t7 142 rfl rfl
theorem wd_1179 : Cond.methodLink RL 124 yX13_account ∈ lw_good := mem_t7 143 (by decide +kernel) rfl
theorem wd_1180 : Cond.instanceMethod yX13_account ∈ lw_good := mem_t7 144 (by decide +kernel) rfl
theorem wd_1181 : Cond.selects RX13 yX13_account yX13_account ∈ lw_good := mem_t7 145 (by decide +kernel) rfl
theorem wd_1182 : Cond.code yX13_account cX13_account 5 (some .long) ∈ lw_good := mem_t7 146 rfl rfl
theorem wd_1183 : Cond.methodLink RL 128 yX13_tenure ∈ lw_good := mem_t7 147 (by decide +kernel) rfl
theorem wd_1184 : Cond.instanceMethod yX13_tenure ∈ lw_good := mem_t7 148 (by decide +kernel) rfl
theorem wd_1185 : Cond.selects RX13 yX13_tenure yX13_tenure ∈ lw_good := mem_t7 149 (by decide +kernel) rfl
theorem wd_1186 : Cond.code yX13_tenure cX13_tenure 6 (some .int) ∈ lw_good := mem_t7 150 rfl rfl
theorem wd_1187 : Cond.methodLink RL 132 yX13_who ∈ lw_good := mem_t7 151 (by decide +kernel) rfl
theorem wd_1188 : Cond.instanceMethod yX13_who ∈ lw_good := mem_t7 152 (by decide +kernel) rfl
theorem wd_1189 : Cond.selects RX13 yX13_who yX13_who ∈ lw_good := mem_t7 153 (by decide +kernel) rfl
theorem wd_1190 : Cond.code yX13_who cX13_who 7 (some .int) ∈ lw_good := mem_t7 154 rfl rfl
theorem wd_1191 : Cond.methodLink RL 136 yX13_stretch_ ∈ lw_good := mem_t7 155 (by decide +kernel) rfl
theorem wd_1192 : Cond.instanceMethod yX13_stretch_ ∈ lw_good := mem_t7 156 (by decide +kernel) rfl
theorem wd_1193 : Cond.selects RX13 yX13_stretch_ yX13_stretch_ ∈ lw_good := mem_t7 157 (by decide +kernel) rfl
theorem wd_1194 : Cond.code yX13_stretch_ cX13_stretch_ 5 (some .long) ∈ lw_good := mem_t7 158 rfl rfl
theorem wd_1195 : Cond.methodLink RL 140 yX13_due ∈ lw_good := mem_t7 159 (by decide +kernel) rfl
theorem wd_1196 : Cond.instanceMethod yX13_due ∈ lw_good := mem_t7 160 (by decide +kernel) rfl
theorem wd_1197 : Cond.selects RX13 yX13_due yX13_due ∈ lw_good := mem_t7 161 (by decide +kernel) rfl
theorem wd_1198 : Cond.code yX13_due cX13_due 4 (some .long) ∈ lw_good := mem_t7 162 rfl rfl
theorem wd_1199 : Cond.methodLink RL 144 yX13_told ∈ lw_good := mem_t7 163 (by decide +kernel) rfl
theorem wd_1200 : Cond.instanceMethod yX13_told ∈ lw_good := mem_t7 164 (by decide +kernel) rfl
theorem wd_1201 : Cond.selects RX13 yX13_told yX13_told ∈ lw_good := mem_t7 165 (by decide +kernel) rfl
theorem wd_1202 : Cond.code yX13_told cX13_told 5 (some .int) ∈ lw_good := mem_t7 166 rfl rfl
theorem wd_1203 : Cond.methodLink RL 148 yX13_sum ∈ lw_good := mem_t7 167 (by decide +kernel) rfl
theorem wd_1204 : Cond.instanceMethod yX13_sum ∈ lw_good := mem_t7 168 (by decide +kernel) rfl
theorem wd_1205 : Cond.selects RX13 yX13_sum yX13_sum ∈ lw_good := mem_t7 169 (by decide +kernel) rfl
theorem wd_1206 : Cond.code yX13_sum cX13_sum 6 (some .long) ∈ lw_good := mem_t7 170 rfl rfl
theorem wd_1207 : Cond.methodLink RL 152 yX13_entry ∈ lw_good := mem_t7 171 (by decide +kernel) rfl
theorem wd_1208 : Cond.instanceMethod yX13_entry ∈ lw_good := mem_t7 172 (by decide +kernel) rfl
theorem wd_1209 : Cond.selects RX13 yX13_entry yX13_entry ∈ lw_good := mem_t7 173 (by decide +kernel) rfl
theorem wd_1210 : Cond.code yX13_entry cX13_entry 4 (some .long) ∈ lw_good := mem_t7 174 rfl rfl
theorem wd_1211 : Cond.methodLink RL 159 yX13_sheet ∈ lw_good := mem_t7 175 (by decide +kernel) rfl
theorem wd_1212 : Cond.instanceMethod yX13_sheet ∈ lw_good := mem_t7 176 (by decide +kernel) rfl
theorem wd_1213 : Cond.selects RX13 yX13_sheet yX13_sheet ∈ lw_good := mem_t7 177 (by decide +kernel) rfl
theorem wd_1214 : Cond.code yX13_sheet cX13_sheet 4 (some .int) ∈ lw_good := mem_t7 178 rfl rfl
theorem wd_1215 : Cond.methodLink RL 163 yX13_check ∈ lw_good := mem_t7 179 (by decide +kernel) rfl
theorem wd_1216 : Cond.instanceMethod yX13_check ∈ lw_good := mem_t7 180 (by decide +kernel) rfl
theorem wd_1217 : Cond.selects RX13 yX13_check yX13_check ∈ lw_good := mem_t7 181 (by decide +kernel) rfl
theorem wd_1218 : Cond.code yX13_check cX13_check 8 (some .int) ∈ lw_good := mem_t7 182 rfl rfl
theorem wd_1219 : Cond.methodLink RL 168 yX13_status ∈ lw_good := mem_t7 183 (by decide +kernel) rfl
theorem wd_1220 : Cond.instanceMethod yX13_status ∈ lw_good := mem_t7 184 (by decide +kernel) rfl
theorem wd_1221 : Cond.selects RX13 yX13_status yX13_status ∈ lw_good := mem_t7 185 (by decide +kernel) rfl
theorem wd_1222 : Cond.code yX13_status cX13_status 1 (some .int) ∈ lw_good := mem_t7 186 rfl rfl
theorem wd_1223 : Cond.methodLink RL 172 yX13_where ∈ lw_good := mem_t7 187 (by decide +kernel) rfl
theorem wd_1224 : Cond.instanceMethod yX13_where ∈ lw_good := mem_t7 188 (by decide +kernel) rfl
theorem wd_1225 : Cond.selects RX13 yX13_where yX13_where ∈ lw_good := mem_t7 189 (by decide +kernel) rfl
theorem wd_1226 : Cond.code yX13_where cX13_where 1 (some .int) ∈ lw_good := mem_t7 190 rfl rfl
set_option maxHeartbeats 4000000 in
set_option maxRecDepth 100000 in
theorem cz_house {p : Program} {l : Launch} {e : Env} {s : State} {m : MethodId} {below : List Frame} {meth : Method} {c : Code} {b Ln : Nat} {xs : Nat → Int32} (C0 : lw_At p s m meth c b Ln xs) {D : va_G} {cy : Nat → ClassId} {A : Nat → Prop} (hA : ∀ q, s.heap.size ≤ q → A q) (hN : NW s) (hK : va_K D vwCl (tysC cy) s) (hST : STAT A s) {za z2 z3 : Nat} {PK PT : Nat → Int32} {SX : Nat → Nat → Int} {SY : Nat → Nat → Nat → Int32} {WH : Int32} {CA : Nat → Int32} {Wa Wb : va_W} {H : Heap} {locs : List Loc} {cells slots : Nat} {ls : Array Slot} {lv : List (Nat × Value)} (k1 : Int32)  (hcs : cells + 0 ≤ 600000 ∧ slots + 0 ≤ 7302250) (hXS : ZS cy za z2 z3 PK PT SX SY WH CA Wa) (hP1 : va_P D vwCl Wa H) (hP2 : va_P D vwCl Wb H) (hD1 : va_D A Wa) (hap : APT Wa Wb) (hS : va_S A s.heap H locs) (hl : lv_has ls 4 lv) (kk : ∀ (r : Int32) (Wc : va_W) (H1 : Heap) (locs1 : List Loc), r = ansH k1 z2 → (∃ (X9 : Nat → Int) (Y9 : Nat → Nat → Int32), (okHo z2 k1 → HOUSF k1 X9 Y9) ∧ ZS cy za (cntH k1 z2) z3 PK PT (sxHo z2 SX k1 X9) (syHo z2 SY k1 Y9) (-1) CA Wc) → va_P D vwCl Wc H1 → va_P D vwCl Wb H1 → va_D A Wc → APT Wc Wb → va_S A s.heap H1 locs1 → W p l e room_1 s m #[Value.ref b] below meth c H1 locs1 (cells + 0) (slots + 0) (lw_Z below #[Value.ref b] s) (F0 m 215 ls [.int r])) : W p l e room_1 s m #[Value.ref b] below meth c H locs cells slots (lw_Z below #[Value.ref b] s) (F0 m 212 ls [.int k1, .ref za]) := by
  obtain ⟨hx, hb, hr, hml, hown, hts, hX, hbl, hlocks, hgv⟩ := id C0
  have hg : ∀ w ∈ lw_good, w.before #[Value.ref b] s = true := fun w h => hts w (List.mem_filter.mp h).1
  have hown : s.vm.findClass RL = some m.cls := hown
  have hSVz := (ZS.svhi hXS).1
  obtain ⟨z0, z1, z4, z5, z6, z7, z8, z9, z10, z11, z12, z13, z14, z15, z16, z17, z18, z19, K, L, M, rfl, i1, b2, b3, i6, i7, i8, i9, b10, i11, i12, i13, i14, i15, b16, i17, i19, hW, hGI, hR5, hZP, hZS, hWH, hZG, hTN⟩ := hXS
  have hFc : ∀ q, va_A ([(za, (b13_0 z0 z1 (nI z2) (nI z3) z4 z5 z6 z7 z8 z9 (nI z10) z11 z12 z13 z14 z15 (nI z16) z17 z18 z19))] ++ va_pl L M) H.size q → A q := pg_free hD1 hS hA
  refine va_calli (va_runV (As := [.int k1]) (rest := []) ⟨hx, hb, hml, hown, hg⟩ (z_house l D cy K L M H.size za z0 z1 z2 z3 z4 z5 z6 z7 z8 z9 z10 z11 z12 z13 z14 z15 z16 z17 z18 z19 k1 SX SY hW i1 b2 b3 i6 i7 i8 i9 b10 i11 i12 i13 i14 i15 b16 i17 i19 hGI hZS) (cwV 1 hg (gV wd_1079 wd_1080 wd_1081 wd_717 wd_1082) rfl rfl rfl (by decide +kernel) ⟨(Nat.le_of_ble_eq_true rfl), (Nat.le_of_ble_eq_true rfl)⟩) ⟨PG.blind, va_recv hK hP1 (ci := 13) (q0 := 0) rfl rfl, fun U hU hW9 => ⟨rfl, PG.at hP1 hK hD1 hN hU hW9⟩⟩ rfl rfl hl.1 rfl (lv_room (Nat.le_of_ble_eq_true rfl)) dL_law_212 hcs) hS (fun q _ h => hFc q h) hFc (fun r u t H1 locs1 ht hvm hw hB hz1 hk1 hS1 => ?_)
  obtain ⟨hW9, hF9, hG9, hVP, hpost⟩ := hw
  obtain ⟨w4, hP9, hD9⟩ := hB
  rw [ht] at hP9
  obtain ⟨hQ9, hap9⟩ := hap.step hP2 hk1 hD9
  obtain ⟨hGI9, X9, Y9, hc9, hZS9⟩ := hVP
  exact kk r _ H1 locs1 hpost ⟨X9, Y9, hc9, ⟨0, z1, w4, (-1), z6, z7, z8, z9, z10, z11, z12, z13, z14, z15, z16, z17, z18, z19, K, L, u, rfl, i1, (cntH_le b2), b3, i6, i7, i8, i9, b10, i11, i12, i13, i14, i15, b16, i17, i19, hW9, hGI9, (R5.mv hR5 i6 i7 hF9 (by decide) (by decide)), (ZP.mv hZP i6 i7 hF9 (by decide) (by decide)), hZS9, rfl, (ZGC.mv hZG i8 hF9 (by decide)), (TNN.house hTN b2 hc9)⟩⟩ hP9 hQ9 (hD9.mono hFc) hap9 hS1
set_option maxHeartbeats 4000000 in
set_option maxRecDepth 100000 in
theorem cz_partner {p : Program} {l : Launch} {e : Env} {s : State} {m : MethodId} {below : List Frame} {meth : Method} {c : Code} {b Ln : Nat} {xs : Nat → Int32} (C0 : lw_At p s m meth c b Ln xs) {D : va_G} {cy : Nat → ClassId} {A : Nat → Prop} (hA : ∀ q, s.heap.size ≤ q → A q) (hN : NW s) (hK : va_K D vwCl (tysC cy) s) (hST : STAT A s) {za z2 z3 : Nat} {PK PT : Nat → Int32} {SX : Nat → Nat → Int} {SY : Nat → Nat → Nat → Int32} {WH : Int32} {CA : Nat → Int32} {Wa Wb : va_W} {H : Heap} {locs : List Loc} {cells slots : Nat} {ls : Array Slot} {lv : List (Nat × Value)} (k1 : Int32) (k2 : Int32)  (hcs : cells + 0 ≤ 600000 ∧ slots + 0 ≤ 7302250) (hXS : ZS cy za z2 z3 PK PT SX SY WH CA Wa) (hP1 : va_P D vwCl Wa H) (hP2 : va_P D vwCl Wb H) (hD1 : va_D A Wa) (hap : APT Wa Wb) (hS : va_S A s.heap H locs) (hl : lv_has ls 4 lv) (kk : ∀ (r : Int32) (Wc : va_W) (H1 : Heap) (locs1 : List Loc), r = anPa z2 z3 k1 k2 → ZS cy za z2 (cnPa z2 z3 k1 k2) (pkPa z2 z3 PK k1 k2) (ptPa z2 z3 PT k1 k2) SX SY (-1) CA Wc → va_P D vwCl Wc H1 → va_P D vwCl Wb H1 → va_D A Wc → APT Wc Wb → va_S A s.heap H1 locs1 → W p l e room_1 s m #[Value.ref b] below meth c H1 locs1 (cells + 0) (slots + 0) (lw_Z below #[Value.ref b] s) (F0 m 248 ls [.int r])) : W p l e room_1 s m #[Value.ref b] below meth c H locs cells slots (lw_Z below #[Value.ref b] s) (F0 m 245 ls [.int k2, .int k1, .ref za]) := by
  obtain ⟨hx, hb, hr, hml, hown, hts, hX, hbl, hlocks, hgv⟩ := id C0
  have hg : ∀ w ∈ lw_good, w.before #[Value.ref b] s = true := fun w h => hts w (List.mem_filter.mp h).1
  have hown : s.vm.findClass RL = some m.cls := hown
  have hSVz := (ZS.svhi hXS).1
  obtain ⟨z0, z1, z4, z5, z6, z7, z8, z9, z10, z11, z12, z13, z14, z15, z16, z17, z18, z19, K, L, M, rfl, i1, b2, b3, i6, i7, i8, i9, b10, i11, i12, i13, i14, i15, b16, i17, i19, hW, hGI, hR5, hZP, hZS, hWH, hZG, hTN⟩ := hXS
  have hFc : ∀ q, va_A ([(za, (b13_0 z0 z1 (nI z2) (nI z3) z4 z5 z6 z7 z8 z9 (nI z10) z11 z12 z13 z14 z15 (nI z16) z17 z18 z19))] ++ va_pl L M) H.size q → A q := pg_free hD1 hS hA
  refine va_calli (va_runV (As := [.int k1, .int k2]) (rest := []) ⟨hx, hb, hml, hown, hg⟩ (z_partner l D cy K L M H.size za z0 z1 z2 z3 z4 z5 z6 z7 z8 z9 z10 z11 z12 z13 z14 z15 z16 z17 z18 z19 k1 k2 PK PT hW i1 b2 b3 i6 i7 i8 i9 b10 i11 i12 i13 i14 i15 b16 i17 i19 hR5 hZP) (cwV 2 hg (gV wd_1083 wd_1084 wd_1085 wd_717 wd_1086) rfl rfl rfl (by decide +kernel) ⟨(Nat.le_of_ble_eq_true rfl), (Nat.le_of_ble_eq_true rfl)⟩) ⟨PG.blind, va_recv hK hP1 (ci := 13) (q0 := 0) rfl rfl, fun U hU hW9 => ⟨rfl, PG.at hP1 hK hD1 hN hU hW9⟩⟩ rfl rfl hl.1 rfl (lv_room (Nat.le_of_ble_eq_true rfl)) dL_law_245 hcs) hS (fun q _ h => hFc q h) hFc (fun r u t H1 locs1 ht hvm hw hB hz1 hk1 hS1 => ?_)
  obtain ⟨hW9, hF9, hVP, hpost⟩ := hw
  obtain ⟨w4, hP9, hD9⟩ := hB
  rw [ht] at hP9
  obtain ⟨hQ9, hap9⟩ := hap.step hP2 hk1 hD9
  obtain ⟨hR59, hZP9⟩ := hVP
  exact kk r _ H1 locs1 hpost ⟨0, z1, w4, (-1), z6, z7, z8, z9, z10, z11, z12, z13, z14, z15, z16, z17, z18, z19, K, L, u, rfl, i1, b2, (cnPa_le b3), i6, i7, i8, i9, b10, i11, i12, i13, i14, i15, b16, i17, i19, hW9, (GI.mv hW hW9 i1 b2 hGI hF9 ((fG.rf (js := [])).frR hF9 (by decide)) (by decide) (by decide) (by decide)), hR59, hZP9, (ZSx.mv hW hW9 i1 b2 hZS hF9 ((fG.rf (js := [])).frR hF9 (by decide)) (by decide) (by decide) (by decide)), rfl, (ZGC.mv hZG i8 hF9 (by decide)), hTN⟩ hP9 hQ9 (hD9.mono hFc) hap9 hS1
set_option maxHeartbeats 4000000 in
set_option maxRecDepth 100000 in
theorem cz_letter {p : Program} {l : Launch} {e : Env} {s : State} {m : MethodId} {below : List Frame} {meth : Method} {c : Code} {b Ln : Nat} {xs : Nat → Int32} (C0 : lw_At p s m meth c b Ln xs) {D : va_G} {cy : Nat → ClassId} {A : Nat → Prop} (hA : ∀ q, s.heap.size ≤ q → A q) (hN : NW s) (hK : va_K D vwCl (tysC cy) s) (hST : STAT A s) {za z2 z3 : Nat} {PK PT : Nat → Int32} {SX : Nat → Nat → Int} {SY : Nat → Nat → Nat → Int32} {WH : Int32} {CA : Nat → Int32} {Wa Wb : va_W} {H : Heap} {locs : List Loc} {cells slots : Nat} {ls : Array Slot} {lv : List (Nat × Value)} (k1 : Int32) (k2 : Int32) (k3 : Int32)  (hcs : cells + 0 ≤ 600000 ∧ slots + 0 ≤ 7302250) (hXS : ZS cy za z2 z3 PK PT SX SY WH CA Wa) (hP1 : va_P D vwCl Wa H) (hP2 : va_P D vwCl Wb H) (hD1 : va_D A Wa) (hap : APT Wa Wb) (hS : va_S A s.heap H locs) (hl : lv_has ls 4 lv) (kk : ∀ (r : Int32) (Wc : va_W) (H1 : Heap) (locs1 : List Loc), r = anLe z2 SY k1 k2 k3 → ZS cy za z2 z3 PK PT SX (syLe z2 SY k1 k2 k3) (-1) CA Wc → va_P D vwCl Wc H1 → va_P D vwCl Wb H1 → va_D A Wc → APT Wc Wb → va_S A s.heap H1 locs1 → W p l e room_1 s m #[Value.ref b] below meth c H1 locs1 (cells + 0) (slots + 0) (lw_Z below #[Value.ref b] s) (F0 m 291 ls [.int r])) : W p l e room_1 s m #[Value.ref b] below meth c H locs cells slots (lw_Z below #[Value.ref b] s) (F0 m 288 ls [.int k3, .int k2, .int k1, .ref za]) := by
  obtain ⟨hx, hb, hr, hml, hown, hts, hX, hbl, hlocks, hgv⟩ := id C0
  have hg : ∀ w ∈ lw_good, w.before #[Value.ref b] s = true := fun w h => hts w (List.mem_filter.mp h).1
  have hown : s.vm.findClass RL = some m.cls := hown
  have hSVz := (ZS.svhi hXS).1
  obtain ⟨z0, z1, z4, z5, z6, z7, z8, z9, z10, z11, z12, z13, z14, z15, z16, z17, z18, z19, K, L, M, rfl, i1, b2, b3, i6, i7, i8, i9, b10, i11, i12, i13, i14, i15, b16, i17, i19, hW, hGI, hR5, hZP, hZS, hWH, hZG, hTN⟩ := hXS
  have hFc : ∀ q, va_A ([(za, (b13_0 z0 z1 (nI z2) (nI z3) z4 z5 z6 z7 z8 z9 (nI z10) z11 z12 z13 z14 z15 (nI z16) z17 z18 z19))] ++ va_pl L M) H.size q → A q := pg_free hD1 hS hA
  refine va_calli (va_runV (As := [.int k1, .int k2, .int k3]) (rest := []) ⟨hx, hb, hml, hown, hg⟩ (z_letter l D cy K L M H.size za z0 z1 z2 z3 z4 z5 z6 z7 z8 z9 z10 z11 z12 z13 z14 z15 z16 z17 z18 z19 k1 k2 k3 SX SY hW i1 b2 b3 i6 i7 i8 i9 b10 i11 i12 i13 i14 i15 b16 i17 i19 hGI hZS) (cwV 3 hg (gV wd_1087 wd_1088 wd_1089 wd_717 wd_1090) rfl rfl rfl (by decide +kernel) ⟨(Nat.le_of_ble_eq_true rfl), (Nat.le_of_ble_eq_true rfl)⟩) ⟨PG.blind, va_recv hK hP1 (ci := 13) (q0 := 0) rfl rfl, fun U hU hW9 => ⟨rfl, PG.at hP1 hK hD1 hN hU hW9⟩⟩ rfl rfl hl.1 rfl (lv_room (Nat.le_of_ble_eq_true rfl)) dL_law_288 hcs) hS (fun q _ h => hFc q h) hFc (fun r u t H1 locs1 ht hvm hw hB hz1 hk1 hS1 => ?_)
  obtain ⟨hW9, hF9, hG9, hVP, hpost⟩ := hw
  obtain ⟨w4, hP9, hD9⟩ := hB
  rw [ht] at hP9
  obtain ⟨hQ9, hap9⟩ := hap.step hP2 hk1 hD9
  obtain ⟨hGI9, hZS9⟩ := hVP
  exact kk r _ H1 locs1 hpost ⟨0, z1, w4, (-1), z6, z7, z8, z9, z10, z11, z12, z13, z14, z15, z16, z17, z18, z19, K, L, u, rfl, i1, b2, b3, i6, i7, i8, i9, b10, i11, i12, i13, i14, i15, b16, i17, i19, hW9, hGI9, (R5.mv hR5 i6 i7 hF9 (by decide) (by decide)), (ZP.mv hZP i6 i7 hF9 (by decide) (by decide)), hZS9, rfl, (ZGC.mv hZG i8 hF9 (by decide)), (TNN.cg hTN (fun _ => rfl) (fun j => by unfold syLe; repeat' (first | rfl | exact vaR (by rfl) j | exact vaR (lKdn _ _ _ _ _ (by decide)) j | exact vaR ((va_up_ne _ _ (by decide)).trans (lKdn _ _ _ _ _ (by decide))) j | refine iteR ?_ ?_)))⟩ hP9 hQ9 (hD9.mono hFc) hap9 hS1
set_option maxHeartbeats 4000000 in
set_option maxRecDepth 100000 in
theorem cz_unseal {p : Program} {l : Launch} {e : Env} {s : State} {m : MethodId} {below : List Frame} {meth : Method} {c : Code} {b Ln : Nat} {xs : Nat → Int32} (C0 : lw_At p s m meth c b Ln xs) {D : va_G} {cy : Nat → ClassId} {A : Nat → Prop} (hA : ∀ q, s.heap.size ≤ q → A q) (hN : NW s) (hK : va_K D vwCl (tysC cy) s) (hST : STAT A s) {za z2 z3 : Nat} {PK PT : Nat → Int32} {SX : Nat → Nat → Int} {SY : Nat → Nat → Nat → Int32} {WH : Int32} {CA : Nat → Int32} {Wa Wb : va_W} {H : Heap} {locs : List Loc} {cells slots : Nat} {ls : Array Slot} {lv : List (Nat × Value)} (k1 : Int32) (k2 : Int32)  (hcs : cells + 0 ≤ 600000 ∧ slots + 0 ≤ 7302250) (hXS : ZS cy za z2 z3 PK PT SX SY WH CA Wa) (hP1 : va_P D vwCl Wa H) (hP2 : va_P D vwCl Wb H) (hD1 : va_D A Wa) (hap : APT Wa Wb) (hS : va_S A s.heap H locs) (hl : lv_has ls 4 lv) (kk : ∀ (r : Int32) (Wc : va_W) (H1 : Heap) (locs1 : List Loc), r = anUn z2 SY k1 k2 → ZS cy za z2 z3 PK PT SX (syUn z2 SY k1 k2) (-1) CA Wc → va_P D vwCl Wc H1 → va_P D vwCl Wb H1 → va_D A Wc → APT Wc Wb → va_S A s.heap H1 locs1 → W p l e room_1 s m #[Value.ref b] below meth c H1 locs1 (cells + 0) (slots + 0) (lw_Z below #[Value.ref b] s) (F0 m 324 ls [.int r])) : W p l e room_1 s m #[Value.ref b] below meth c H locs cells slots (lw_Z below #[Value.ref b] s) (F0 m 321 ls [.int k2, .int k1, .ref za]) := by
  obtain ⟨hx, hb, hr, hml, hown, hts, hX, hbl, hlocks, hgv⟩ := id C0
  have hg : ∀ w ∈ lw_good, w.before #[Value.ref b] s = true := fun w h => hts w (List.mem_filter.mp h).1
  have hown : s.vm.findClass RL = some m.cls := hown
  have hSVz := (ZS.svhi hXS).1
  obtain ⟨z0, z1, z4, z5, z6, z7, z8, z9, z10, z11, z12, z13, z14, z15, z16, z17, z18, z19, K, L, M, rfl, i1, b2, b3, i6, i7, i8, i9, b10, i11, i12, i13, i14, i15, b16, i17, i19, hW, hGI, hR5, hZP, hZS, hWH, hZG, hTN⟩ := hXS
  have hFc : ∀ q, va_A ([(za, (b13_0 z0 z1 (nI z2) (nI z3) z4 z5 z6 z7 z8 z9 (nI z10) z11 z12 z13 z14 z15 (nI z16) z17 z18 z19))] ++ va_pl L M) H.size q → A q := pg_free hD1 hS hA
  refine va_calli (va_runV (As := [.int k1, .int k2]) (rest := []) ⟨hx, hb, hml, hown, hg⟩ (z_unseal l D cy K L M H.size za z0 z1 z2 z3 z4 z5 z6 z7 z8 z9 z10 z11 z12 z13 z14 z15 z16 z17 z18 z19 k1 k2 SX SY hW i1 b2 b3 i6 i7 i8 i9 b10 i11 i12 i13 i14 i15 b16 i17 i19 hGI hZS) (cwV 2 hg (gV wd_1091 wd_1092 wd_1093 wd_717 wd_1094) rfl rfl rfl (by decide +kernel) ⟨(Nat.le_of_ble_eq_true rfl), (Nat.le_of_ble_eq_true rfl)⟩) ⟨PG.blind, va_recv hK hP1 (ci := 13) (q0 := 0) rfl rfl, fun U hU hW9 => ⟨rfl, PG.at hP1 hK hD1 hN hU hW9⟩⟩ rfl rfl hl.1 rfl (lv_room (Nat.le_of_ble_eq_true rfl)) dL_law_321 hcs) hS (fun q _ h => hFc q h) hFc (fun r u t H1 locs1 ht hvm hw hB hz1 hk1 hS1 => ?_)
  obtain ⟨hW9, hF9, hG9, hVP, hpost⟩ := hw
  obtain ⟨w4, hP9, hD9⟩ := hB
  rw [ht] at hP9
  obtain ⟨hQ9, hap9⟩ := hap.step hP2 hk1 hD9
  obtain ⟨hGI9, hZS9⟩ := hVP
  exact kk r _ H1 locs1 hpost ⟨0, z1, w4, (-1), z6, z7, z8, z9, z10, z11, z12, z13, z14, z15, z16, z17, z18, z19, K, L, u, rfl, i1, b2, b3, i6, i7, i8, i9, b10, i11, i12, i13, i14, i15, b16, i17, i19, hW9, hGI9, (R5.mv hR5 i6 i7 hF9 (by decide) (by decide)), (ZP.mv hZP i6 i7 hF9 (by decide) (by decide)), hZS9, rfl, (ZGC.mv hZG i8 hF9 (by decide)), (TNN.cg hTN (fun _ => rfl) (fun j => by unfold syUn; repeat' (first | rfl | exact vaR (by rfl) j | exact vaR (lKdn _ _ _ _ _ (by decide)) j | exact vaR ((va_up_ne _ _ (by decide)).trans (lKdn _ _ _ _ _ (by decide))) j | refine iteR ?_ ?_)))⟩ hP9 hQ9 (hD9.mono hFc) hap9 hS1
set_option maxHeartbeats 4000000 in
set_option maxRecDepth 100000 in
theorem cz_holds {p : Program} {l : Launch} {e : Env} {s : State} {m : MethodId} {below : List Frame} {meth : Method} {c : Code} {b Ln : Nat} {xs : Nat → Int32} (C0 : lw_At p s m meth c b Ln xs) {D : va_G} {cy : Nat → ClassId} {A : Nat → Prop} (hA : ∀ q, s.heap.size ≤ q → A q) (hN : NW s) (hK : va_K D vwCl (tysC cy) s) (hST : STAT A s) {za z2 z3 : Nat} {PK PT : Nat → Int32} {SX : Nat → Nat → Int} {SY : Nat → Nat → Nat → Int32} {WH : Int32} {CA : Nat → Int32} {Wa Wb : va_W} {H : Heap} {locs : List Loc} {cells slots : Nat} {ls : Array Slot} {lv : List (Nat × Value)} (k1 : Int32) (k2 : Int32) (r0 : Int32)  (hcs : cells + 0 ≤ 600000 ∧ slots + 0 ≤ 7302250) (hXS : ZS cy za z2 z3 PK PT SX SY WH CA Wa) (hP1 : va_P D vwCl Wa H) (hP2 : va_P D vwCl Wb H) (hD1 : va_D A Wa) (hap : APT Wa Wb) (hS : va_S A s.heap H locs) (hl : lv_has ls 4 lv) (kk : ∀ (r : Int32) (Wc : va_W) (H1 : Heap) (locs1 : List Loc), r = anHo z2 SY k1 k2 → ZS cy za z2 z3 PK PT SX SY (-1) CA Wc → va_P D vwCl Wc H1 → va_P D vwCl Wb H1 → va_D A Wc → APT Wc Wb → va_S A s.heap H1 locs1 → W p l e room_1 s m #[Value.ref b] below meth c H1 locs1 (cells + 0) (slots + 0) (lw_Z below #[Value.ref b] s) (F0 m 356 ls [.int r, .int r0])) : W p l e room_1 s m #[Value.ref b] below meth c H locs cells slots (lw_Z below #[Value.ref b] s) (F0 m 353 ls [.int k2, .int k1, .ref za, .int r0]) := by
  obtain ⟨hx, hb, hr, hml, hown, hts, hX, hbl, hlocks, hgv⟩ := id C0
  have hg : ∀ w ∈ lw_good, w.before #[Value.ref b] s = true := fun w h => hts w (List.mem_filter.mp h).1
  have hown : s.vm.findClass RL = some m.cls := hown
  have hSVz := (ZS.svhi hXS).1
  obtain ⟨z0, z1, z4, z5, z6, z7, z8, z9, z10, z11, z12, z13, z14, z15, z16, z17, z18, z19, K, L, M, rfl, i1, b2, b3, i6, i7, i8, i9, b10, i11, i12, i13, i14, i15, b16, i17, i19, hW, hGI, hR5, hZP, hZS, hWH, hZG, hTN⟩ := hXS
  have hFc : ∀ q, va_A ([(za, (b13_0 z0 z1 (nI z2) (nI z3) z4 z5 z6 z7 z8 z9 (nI z10) z11 z12 z13 z14 z15 (nI z16) z17 z18 z19))] ++ va_pl L M) H.size q → A q := pg_free hD1 hS hA
  refine va_calli (va_runV (As := [.int k1, .int k2]) (rest := [.int r0]) ⟨hx, hb, hml, hown, hg⟩ (z_holds l D cy K L M H.size za z0 z1 z2 z3 z4 z5 z6 z7 z8 z9 z10 z11 z12 z13 z14 z15 z16 z17 z18 z19 k1 k2 SX SY hW i1 b2 b3 i6 i7 i8 i9 b10 i11 i12 i13 i14 i15 b16 i17 i19 hGI hZS) (cwV 2 hg (gV wd_1095 wd_1096 wd_1097 wd_717 wd_1098) rfl rfl rfl (by decide +kernel) ⟨(Nat.le_of_ble_eq_true rfl), (Nat.le_of_ble_eq_true rfl)⟩) ⟨PG.blind, va_recv hK hP1 (ci := 13) (q0 := 0) rfl rfl, fun U hU hW9 => ⟨rfl, PG.at hP1 hK hD1 hN hU hW9⟩⟩ rfl rfl hl.1 rfl (lv_room (Nat.le_of_ble_eq_true rfl)) dL_law_353 hcs) hS (fun q _ h => hFc q h) hFc (fun r u t H1 locs1 ht hvm hw hB hz1 hk1 hS1 => ?_)
  have hpost := hw
  have hW9 := hW
  obtain ⟨w4, hP9, hD9⟩ := hB
  rw [ht] at hP9
  obtain ⟨hQ9, hap9⟩ := hap.step hP2 hk1 hD9
  exact kk r _ H1 locs1 hpost ⟨0, z1, w4, (-1), z6, z7, z8, z9, z10, z11, z12, z13, z14, z15, z16, z17, z18, z19, K, L, M, rfl, i1, b2, b3, i6, i7, i8, i9, b10, i11, i12, i13, i14, i15, b16, i17, i19, hW9, hGI, hR5, hZP, hZS, rfl, hZG, hTN⟩ hP9 hQ9 (hD9.mono hFc) hap9 hS1
set_option maxHeartbeats 4000000 in
set_option maxRecDepth 100000 in
theorem cz_join {p : Program} {l : Launch} {e : Env} {s : State} {m : MethodId} {below : List Frame} {meth : Method} {c : Code} {b Ln : Nat} {xs : Nat → Int32} (C0 : lw_At p s m meth c b Ln xs) {D : va_G} {cy : Nat → ClassId} {A : Nat → Prop} (hA : ∀ q, s.heap.size ≤ q → A q) (hN : NW s) (hK : va_K D vwCl (tysC cy) s) (hST : STAT A s) {za z2 z3 : Nat} {PK PT : Nat → Int32} {SX : Nat → Nat → Int} {SY : Nat → Nat → Nat → Int32} {WH : Int32} {CA : Nat → Int32} {Wa Wb : va_W} {H : Heap} {locs : List Loc} {cells slots : Nat} {ls : Array Slot} {lv : List (Nat × Value)} (k1 : Int32) (k2 : Int32) (k3 : Int32) (k4 : Int32) (k5 : Int32) (zk5 : (k5 = 0 ∨ k5 = 1)) (hcs : cells + 0 ≤ 600000 ∧ slots + 0 ≤ 7302250) (hXS : ZS cy za z2 z3 PK PT SX SY WH CA Wa) (hP1 : va_P D vwCl Wa H) (hP2 : va_P D vwCl Wb H) (hD1 : va_D A Wa) (hap : APT Wa Wb) (hS : va_S A s.heap H locs) (hl : lv_has ls 4 lv) (kk : ∀ (r : Int32) (Wc : va_W) (H1 : Heap) (locs1 : List Loc), r = anJo z2 z3 PK PT SX SY k1 k2 k3 k4 → ZS cy za z2 z3 PK PT (sxJo z2 z3 PK PT SX SY k1 k2 k3 k4) (syJo z2 z3 PK PT SX SY k1 k2 k3 k4 k5) (-1) (caJo z2 z3 PK PT SX SY k1 k2 k3 k4) Wc → va_P D vwCl Wc H1 → va_P D vwCl Wb H1 → va_D A Wc → APT Wc Wb → va_S A s.heap H1 locs1 → W p l e room_1 s m #[Value.ref b] below meth c H1 locs1 (cells + 0) (slots + 0) (lw_Z below #[Value.ref b] s) (F0 m 436 ls [.int r])) : W p l e room_1 s m #[Value.ref b] below meth c H locs cells slots (lw_Z below #[Value.ref b] s) (F0 m 433 ls [.int k5, .int k4, .int k3, .int k2, .int k1, .ref za]) := by
  obtain ⟨hx, hb, hr, hml, hown, hts, hX, hbl, hlocks, hgv⟩ := id C0
  have hg : ∀ w ∈ lw_good, w.before #[Value.ref b] s = true := fun w h => hts w (List.mem_filter.mp h).1
  have hown : s.vm.findClass RL = some m.cls := hown
  have hSVz := (ZS.svhi hXS).1
  obtain ⟨z0, z1, z4, z5, z6, z7, z8, z9, z10, z11, z12, z13, z14, z15, z16, z17, z18, z19, K, L, M, rfl, i1, b2, b3, i6, i7, i8, i9, b10, i11, i12, i13, i14, i15, b16, i17, i19, hW, hGI, hR5, hZP, hZS, hWH, hZG, hTN⟩ := hXS
  have hFc : ∀ q, va_A ([(za, (b13_0 z0 z1 (nI z2) (nI z3) z4 z5 z6 z7 z8 z9 (nI z10) z11 z12 z13 z14 z15 (nI z16) z17 z18 z19))] ++ va_pl L M) H.size q → A q := pg_free hD1 hS hA
  refine va_calli (va_runV (As := [.int k1, .int k2, .int k3, .int k4, .int k5]) (rest := []) ⟨hx, hb, hml, hown, hg⟩ (z_join l D cy K L M H.size za z0 z1 z2 z3 z4 z5 z6 z7 z8 z9 z10 z11 z12 z13 z14 z15 z16 z17 z18 z19 k1 k2 k3 k4 k5 SX SY PK PT hW i1 b2 b3 i6 i7 i8 i9 b10 i11 i12 i13 i14 i15 b16 i17 i19 zk5 hGI hZS hR5 hZP) (cwV 5 hg (gV wd_1099 wd_1100 wd_1101 wd_717 wd_1102) rfl rfl rfl (by decide +kernel) ⟨(Nat.le_of_ble_eq_true rfl), (Nat.le_of_ble_eq_true rfl)⟩) ⟨PG.blind, va_recv hK hP1 (ci := 13) (q0 := 0) rfl rfl, fun U hU hW9 => ⟨rfl, PG.at hP1 hK hD1 hN hU hW9⟩⟩ rfl rfl hl.1 rfl (lv_room (Nat.le_of_ble_eq_true rfl)) dL_law_433 hcs) hS (fun q _ h => hFc q h) hFc (fun r u t H1 locs1 ht hvm hw hB hz1 hk1 hS1 => ?_)
  obtain ⟨hW9, hF9, hG9, hVP, hpost⟩ := hw
  obtain ⟨w4, w10, hg0, hg1, hP9, hD9⟩ := hB
  rw [ht] at hP9
  obtain ⟨hQ9, hap9⟩ := hap.step hP2 hk1 hD9
  obtain ⟨hGI9, hZS9⟩ := hVP
  exact kk r _ H1 locs1 hpost ⟨0, z1, w4, (-1), z6, z7, z8, z9, w10, z11, z12, z13, z14, z15, z16, z17, z18, z19, K, L, u, rfl, i1, b2, b3, i6, i7, i8, i9, hg0, i11, i12, i13, i14, i15, b16, i17, i19, hW9, hGI9, (R5.mv hR5 i6 i7 hF9 (by decide) (by decide)), (ZP.mv hZP i6 i7 hF9 (by decide) (by decide)), hZS9, rfl, hg1, (TNN.cg hTN (fun j => by unfold sxJo; repeat' (first | rfl | exact vaR (by rfl) j | exact vaR (lKdn _ _ _ _ _ (by decide)) j | exact vaR ((va_up_ne _ _ (by decide)).trans (lKdn _ _ _ _ _ (by decide))) j | refine iteR ?_ ?_)) (fun j => by unfold syJo; repeat' (first | rfl | exact vaR (by rfl) j | exact vaR (lKdn _ _ _ _ _ (by decide)) j | exact vaR ((va_up_ne _ _ (by decide)).trans (lKdn _ _ _ _ _ (by decide))) j | refine iteR ?_ ?_)))⟩ hP9 hQ9 (hD9.mono hFc) hap9 hS1
set_option maxHeartbeats 4000000 in
set_option maxRecDepth 100000 in
theorem cz_leave {p : Program} {l : Launch} {e : Env} {s : State} {m : MethodId} {below : List Frame} {meth : Method} {c : Code} {b Ln : Nat} {xs : Nat → Int32} (C0 : lw_At p s m meth c b Ln xs) {D : va_G} {cy : Nat → ClassId} {A : Nat → Prop} (hA : ∀ q, s.heap.size ≤ q → A q) (hN : NW s) (hK : va_K D vwCl (tysC cy) s) (hST : STAT A s) {za z2 z3 : Nat} {PK PT : Nat → Int32} {SX : Nat → Nat → Int} {SY : Nat → Nat → Nat → Int32} {WH : Int32} {CA : Nat → Int32} {Wa Wb : va_W} {H : Heap} {locs : List Loc} {cells slots : Nat} {ls : Array Slot} {lv : List (Nat × Value)} (k1 : Int32) (k2 : Int32) (k3 : Int32) (k4 : Int32) (k5 : Int32)  (hcs : cells + 0 ≤ 600000 ∧ slots + 0 ≤ 7302250) (hXS : ZS cy za z2 z3 PK PT SX SY WH CA Wa) (hP1 : va_P D vwCl Wa H) (hP2 : va_P D vwCl Wb H) (hD1 : va_D A Wa) (hap : APT Wa Wb) (hS : va_S A s.heap H locs) (hl : lv_has ls 4 lv) (kk : ∀ (r : Int32) (Wc : va_W) (H1 : Heap) (locs1 : List Loc), r = anLv z2 SX SY k1 k2 k3 k4 k5 → ZS cy za z2 z3 PK PT SX (syLv z2 SX SY k1 k2 k3 k4 k5) (-1) CA Wc → va_P D vwCl Wc H1 → va_P D vwCl Wb H1 → va_D A Wc → APT Wc Wb → va_S A s.heap H1 locs1 → W p l e room_1 s m #[Value.ref b] below meth c H1 locs1 (cells + 0) (slots + 0) (lw_Z below #[Value.ref b] s) (F0 m 499 ls [.int r])) : W p l e room_1 s m #[Value.ref b] below meth c H locs cells slots (lw_Z below #[Value.ref b] s) (F0 m 496 ls [.int k5, .int k4, .int k3, .int k2, .int k1, .ref za]) := by
  obtain ⟨hx, hb, hr, hml, hown, hts, hX, hbl, hlocks, hgv⟩ := id C0
  have hg : ∀ w ∈ lw_good, w.before #[Value.ref b] s = true := fun w h => hts w (List.mem_filter.mp h).1
  have hown : s.vm.findClass RL = some m.cls := hown
  have hSVz := (ZS.svhi hXS).1
  obtain ⟨z0, z1, z4, z5, z6, z7, z8, z9, z10, z11, z12, z13, z14, z15, z16, z17, z18, z19, K, L, M, rfl, i1, b2, b3, i6, i7, i8, i9, b10, i11, i12, i13, i14, i15, b16, i17, i19, hW, hGI, hR5, hZP, hZS, hWH, hZG, hTN⟩ := hXS
  have hFc : ∀ q, va_A ([(za, (b13_0 z0 z1 (nI z2) (nI z3) z4 z5 z6 z7 z8 z9 (nI z10) z11 z12 z13 z14 z15 (nI z16) z17 z18 z19))] ++ va_pl L M) H.size q → A q := pg_free hD1 hS hA
  refine va_calli (va_runV (As := [.int k1, .int k2, .int k3, .int k4, .int k5]) (rest := []) ⟨hx, hb, hml, hown, hg⟩ (z_leave l D cy K L M H.size za z0 z1 z2 z3 z4 z5 z6 z7 z8 z9 z10 z11 z12 z13 z14 z15 z16 z17 z18 z19 k1 k2 k3 k4 k5 SX SY hW i1 b2 b3 i6 i7 i8 i9 b10 i11 i12 i13 i14 i15 b16 i17 i19 hGI hZS) (cwV 5 hg (gV wd_1103 wd_1104 wd_1105 wd_717 wd_1106) rfl rfl rfl (by decide +kernel) ⟨(Nat.le_of_ble_eq_true rfl), (Nat.le_of_ble_eq_true rfl)⟩) ⟨PG.blind, va_recv hK hP1 (ci := 13) (q0 := 0) rfl rfl, fun U hU hW9 => ⟨rfl, PG.at hP1 hK hD1 hN hU hW9⟩⟩ rfl rfl hl.1 rfl (lv_room (Nat.le_of_ble_eq_true rfl)) dL_law_496 hcs) hS (fun q _ h => hFc q h) hFc (fun r u t H1 locs1 ht hvm hw hB hz1 hk1 hS1 => ?_)
  obtain ⟨hW9, hF9, hG9, hVP, hpost⟩ := hw
  obtain ⟨w4, hP9, hD9⟩ := hB
  rw [ht] at hP9
  obtain ⟨hQ9, hap9⟩ := hap.step hP2 hk1 hD9
  obtain ⟨hGI9, hZS9⟩ := hVP
  exact kk r _ H1 locs1 hpost ⟨0, z1, w4, (-1), z6, z7, z8, z9, z10, z11, z12, z13, z14, z15, z16, z17, z18, z19, K, L, u, rfl, i1, b2, b3, i6, i7, i8, i9, b10, i11, i12, i13, i14, i15, b16, i17, i19, hW9, hGI9, (R5.mv hR5 i6 i7 hF9 (by decide) (by decide)), (ZP.mv hZP i6 i7 hF9 (by decide) (by decide)), hZS9, rfl, (ZGC.mv hZG i8 hF9 (by decide)), (TNN.cg hTN (fun _ => rfl) (fun j => by unfold syLv; repeat' (first | rfl | exact vaR (by rfl) j | exact vaR (lKdn _ _ _ _ _ (by decide)) j | exact vaR ((va_up_ne _ _ (by decide)).trans (lKdn _ _ _ _ _ (by decide))) j | refine iteR ?_ ?_)))⟩ hP9 hQ9 (hD9.mono hFc) hap9 hS1
set_option maxHeartbeats 4000000 in
set_option maxRecDepth 100000 in
theorem cz_die {p : Program} {l : Launch} {e : Env} {s : State} {m : MethodId} {below : List Frame} {meth : Method} {c : Code} {b Ln : Nat} {xs : Nat → Int32} (C0 : lw_At p s m meth c b Ln xs) {D : va_G} {cy : Nat → ClassId} {A : Nat → Prop} (hA : ∀ q, s.heap.size ≤ q → A q) (hN : NW s) (hK : va_K D vwCl (tysC cy) s) (hST : STAT A s) {za z2 z3 : Nat} {PK PT : Nat → Int32} {SX : Nat → Nat → Int} {SY : Nat → Nat → Nat → Int32} {WH : Int32} {CA : Nat → Int32} {Wa Wb : va_W} {H : Heap} {locs : List Loc} {cells slots : Nat} {ls : Array Slot} {lv : List (Nat × Value)} (k1 : Int32) (k2 : Int32) (k3 : Int32) (k4 : Int32)  (hcs : cells + 0 ≤ 600000 ∧ slots + 0 ≤ 7302250) (hXS : ZS cy za z2 z3 PK PT SX SY WH CA Wa) (hP1 : va_P D vwCl Wa H) (hP2 : va_P D vwCl Wb H) (hD1 : va_D A Wa) (hap : APT Wa Wb) (hS : va_S A s.heap H locs) (hl : lv_has ls 4 lv) (kk : ∀ (r : Int32) (Wc : va_W) (H1 : Heap) (locs1 : List Loc), r = anDi z2 z3 PK SX SY k1 k2 k3 k4 → ZS cy za z2 z3 PK PT (sxDi z2 z3 PK SX SY k1 k2 k3 k4) (syDi z2 z3 PK SX SY k1 k2 k3 k4) (-1) CA Wc → va_P D vwCl Wc H1 → va_P D vwCl Wb H1 → va_D A Wc → APT Wc Wb → va_S A s.heap H1 locs1 → W p l e room_1 s m #[Value.ref b] below meth c H1 locs1 (cells + 0) (slots + 0) (lw_Z below #[Value.ref b] s) (F0 m 552 ls [.int r])) : W p l e room_1 s m #[Value.ref b] below meth c H locs cells slots (lw_Z below #[Value.ref b] s) (F0 m 549 ls [.int k4, .int k3, .int k2, .int k1, .ref za]) := by
  obtain ⟨hx, hb, hr, hml, hown, hts, hX, hbl, hlocks, hgv⟩ := id C0
  have hg : ∀ w ∈ lw_good, w.before #[Value.ref b] s = true := fun w h => hts w (List.mem_filter.mp h).1
  have hown : s.vm.findClass RL = some m.cls := hown
  have hSVz := (ZS.svhi hXS).1
  obtain ⟨z0, z1, z4, z5, z6, z7, z8, z9, z10, z11, z12, z13, z14, z15, z16, z17, z18, z19, K, L, M, rfl, i1, b2, b3, i6, i7, i8, i9, b10, i11, i12, i13, i14, i15, b16, i17, i19, hW, hGI, hR5, hZP, hZS, hWH, hZG, hTN⟩ := hXS
  have hFc : ∀ q, va_A ([(za, (b13_0 z0 z1 (nI z2) (nI z3) z4 z5 z6 z7 z8 z9 (nI z10) z11 z12 z13 z14 z15 (nI z16) z17 z18 z19))] ++ va_pl L M) H.size q → A q := pg_free hD1 hS hA
  refine va_calli (va_runV (As := [.int k1, .int k2, .int k3, .int k4]) (rest := []) ⟨hx, hb, hml, hown, hg⟩ (z_die l D cy K L M H.size za z0 z1 z2 z3 z4 z5 z6 z7 z8 z9 z10 z11 z12 z13 z14 z15 z16 z17 z18 z19 k1 k2 k3 k4 SX SY PK PT hW i1 b2 b3 i6 i7 i8 i9 b10 i11 i12 i13 i14 i15 b16 i17 i19 hGI hZS hR5 hZP) (cwV 4 hg (gV wd_1107 wd_1108 wd_1109 wd_717 wd_1110) rfl rfl rfl (by decide +kernel) ⟨(Nat.le_of_ble_eq_true rfl), (Nat.le_of_ble_eq_true rfl)⟩) ⟨PG.blind, va_recv hK hP1 (ci := 13) (q0 := 0) rfl rfl, fun U hU hW9 => ⟨rfl, PG.at hP1 hK hD1 hN hU hW9⟩⟩ rfl rfl hl.1 rfl (lv_room (Nat.le_of_ble_eq_true rfl)) dL_law_549 hcs) hS (fun q _ h => hFc q h) hFc (fun r u t H1 locs1 ht hvm hw hB hz1 hk1 hS1 => ?_)
  obtain ⟨hW9, hF9, hG9, hVP, hpost⟩ := hw
  obtain ⟨w4, hP9, hD9⟩ := hB
  rw [ht] at hP9
  obtain ⟨hQ9, hap9⟩ := hap.step hP2 hk1 hD9
  obtain ⟨hGI9, hZS9⟩ := hVP
  exact kk r _ H1 locs1 hpost ⟨0, z1, w4, (-1), z6, z7, z8, z9, z10, z11, z12, z13, z14, z15, z16, z17, z18, z19, K, L, u, rfl, i1, b2, b3, i6, i7, i8, i9, b10, i11, i12, i13, i14, i15, b16, i17, i19, hW9, hGI9, (R5.mv hR5 i6 i7 hF9 (by decide) (by decide)), (ZP.mv hZP i6 i7 hF9 (by decide) (by decide)), hZS9, rfl, (ZGC.mv hZG i8 hF9 (by decide)), (TNN.cg hTN (fun j => by unfold sxDi; repeat' (first | rfl | exact vaR (by rfl) j | exact vaR (lKdn _ _ _ _ _ (by decide)) j | exact vaR ((va_up_ne _ _ (by decide)).trans (lKdn _ _ _ _ _ (by decide))) j | refine iteR ?_ ?_)) (fun j => by unfold syDi; repeat' (first | rfl | exact vaR (by rfl) j | exact vaR (lKdn _ _ _ _ _ (by decide)) j | exact vaR ((va_up_ne _ _ (by decide)).trans (lKdn _ _ _ _ _ (by decide))) j | refine iteR ?_ ?_)))⟩ hP9 hQ9 (hD9.mono hFc) hap9 hS1
set_option maxHeartbeats 4000000 in
set_option maxRecDepth 100000 in
theorem cz_circle {p : Program} {l : Launch} {e : Env} {s : State} {m : MethodId} {below : List Frame} {meth : Method} {c : Code} {b Ln : Nat} {xs : Nat → Int32} (C0 : lw_At p s m meth c b Ln xs) {D : va_G} {cy : Nat → ClassId} {A : Nat → Prop} (hA : ∀ q, s.heap.size ≤ q → A q) (hN : NW s) (hK : va_K D vwCl (tysC cy) s) (hST : STAT A s) {za z2 z3 : Nat} {PK PT : Nat → Int32} {SX : Nat → Nat → Int} {SY : Nat → Nat → Nat → Int32} {WH : Int32} {CA : Nat → Int32} {Wa Wb : va_W} {H : Heap} {locs : List Loc} {cells slots : Nat} {ls : Array Slot} {lv : List (Nat × Value)} (k1 : Int32)  (hcs : cells + 0 ≤ 600000 ∧ slots + 0 ≤ 7302250) (hXS : ZS cy za z2 z3 PK PT SX SY WH CA Wa) (hP1 : va_P D vwCl Wa H) (hP2 : va_P D vwCl Wb H) (hD1 : va_D A Wa) (hap : APT Wa Wb) (hS : va_S A s.heap H locs) (hl : lv_has ls 4 lv) (kk : ∀ (r : Int32) (Wc : va_W) (H1 : Heap) (locs1 : List Loc), r = (cirA CA k1) → ZS cy za z2 z3 PK PT SX SY WH CA Wc → va_P D vwCl Wc H1 → va_P D vwCl Wb H1 → va_D A Wc → APT Wc Wb → va_S A s.heap H1 locs1 → W p l e room_1 s m #[Value.ref b] below meth c H1 locs1 (cells + 0) (slots + 0) (lw_Z below #[Value.ref b] s) (F0 m 575 ls [.int r])) : W p l e room_1 s m #[Value.ref b] below meth c H locs cells slots (lw_Z below #[Value.ref b] s) (F0 m 572 ls [.int k1, .ref za]) := by
  obtain ⟨hx, hb, hr, hml, hown, hts, hX, hbl, hlocks, hgv⟩ := id C0
  have hg : ∀ w ∈ lw_good, w.before #[Value.ref b] s = true := fun w h => hts w (List.mem_filter.mp h).1
  have hown : s.vm.findClass RL = some m.cls := hown
  have hSVz := (ZS.svhi hXS).1
  obtain ⟨z0, z1, z4, z5, z6, z7, z8, z9, z10, z11, z12, z13, z14, z15, z16, z17, z18, z19, K, L, M, rfl, i1, b2, b3, i6, i7, i8, i9, b10, i11, i12, i13, i14, i15, b16, i17, i19, hW, hGI, hR5, hZP, hZS, hWH, hZG, hTN⟩ := hXS
  have hFc : ∀ q, va_A ([(za, (b13_0 z0 z1 (nI z2) (nI z3) z4 z5 z6 z7 z8 z9 (nI z10) z11 z12 z13 z14 z15 (nI z16) z17 z18 z19))] ++ va_pl L M) H.size q → A q := pg_free hD1 hS hA
  refine va_calli (va_runV (As := [.int k1]) (rest := []) ⟨hx, hb, hml, hown, hg⟩ (z_circle l D cy K L M H.size za z0 z1 z2 z3 z4 z5 z6 z7 z8 z9 z10 z11 z12 z13 z14 z15 z16 z17 z18 z19 k1 CA hW i1 b2 b3 i6 i7 i8 i9 b10 i11 i12 i13 i14 i15 b16 i17 i19 hZG) (cwV 1 hg (gV wd_1111 wd_1112 wd_1113 wd_717 wd_1114) rfl rfl rfl (by decide +kernel) ⟨(Nat.le_of_ble_eq_true rfl), (Nat.le_of_ble_eq_true rfl)⟩) ⟨PG.blind, va_recv hK hP1 (ci := 13) (q0 := 0) rfl rfl, fun U hU hW9 => ⟨rfl, PG.at hP1 hK hD1 hN hU hW9⟩⟩ rfl rfl hl.1 rfl (lv_room (Nat.le_of_ble_eq_true rfl)) dL_law_572 hcs) hS (fun q _ h => hFc q h) hFc (fun r u t H1 locs1 ht hvm hw hB hz1 hk1 hS1 => ?_)
  have hpost := hw
  have hW9 := hW
  obtain ⟨hP9, hD9⟩ := hB
  rw [ht] at hP9
  obtain ⟨hQ9, hap9⟩ := hap.step hP2 hk1 hD9
  exact kk r _ H1 locs1 hpost ⟨0, z1, z4, z5, z6, z7, z8, z9, z10, z11, z12, z13, z14, z15, z16, z17, z18, z19, K, L, M, rfl, i1, b2, b3, i6, i7, i8, i9, b10, i11, i12, i13, i14, i15, b16, i17, i19, hW9, hGI, hR5, hZP, hZS, hWH, hZG, hTN⟩ hP9 hQ9 (hD9.mono hFc) hap9 hS1
set_option maxHeartbeats 4000000 in
set_option maxRecDepth 100000 in
theorem cz_rule {p : Program} {l : Launch} {e : Env} {s : State} {m : MethodId} {below : List Frame} {meth : Method} {c : Code} {b Ln : Nat} {xs : Nat → Int32} (C0 : lw_At p s m meth c b Ln xs) {D : va_G} {cy : Nat → ClassId} {A : Nat → Prop} (hA : ∀ q, s.heap.size ≤ q → A q) (hN : NW s) (hK : va_K D vwCl (tysC cy) s) (hST : STAT A s) {za z2 z3 : Nat} {PK PT : Nat → Int32} {SX : Nat → Nat → Int} {SY : Nat → Nat → Nat → Int32} {WH : Int32} {CA : Nat → Int32} {Wa Wb : va_W} {H : Heap} {locs : List Loc} {cells slots : Nat} {ls : Array Slot} {lv : List (Nat × Value)} (k1 : Int32) (k2 : Int32)  (hcs : cells + 0 ≤ 600000 ∧ slots + 0 ≤ 7302250) (hXS : ZS cy za z2 z3 PK PT SX SY WH CA Wa) (hP1 : va_P D vwCl Wa H) (hP2 : va_P D vwCl Wb H) (hD1 : va_D A Wa) (hap : APT Wa Wb) (hS : va_S A s.heap H locs) (hl : lv_has ls 4 lv) (kk : ∀ (r : Int32) (Wc : va_W) (H1 : Heap) (locs1 : List Loc), r = anRu z2 SX SY k1 k2 → (∃ g9 : Nat → Int32, (okRu z2 SX SY k1 k2 → RUG (SX k1.toNatClampNeg) (SY k1.toNatClampNeg) g9) ∧ ZS cy za z2 z3 PK PT (sxRu z2 SX SY k1 k2) (syRu z2 SX SY k1 k2 g9) (-1) CA Wc) → va_P D vwCl Wc H1 → va_P D vwCl Wb H1 → va_D A Wc → APT Wc Wb → va_S A s.heap H1 locs1 → W p l e room_1 s m #[Value.ref b] below meth c H1 locs1 (cells + 0) (slots + 0) (lw_Z below #[Value.ref b] s) (F0 m 608 ls [.int r])) : W p l e room_1 s m #[Value.ref b] below meth c H locs cells slots (lw_Z below #[Value.ref b] s) (F0 m 605 ls [.int k2, .int k1, .ref za]) := by
  obtain ⟨hx, hb, hr, hml, hown, hts, hX, hbl, hlocks, hgv⟩ := id C0
  have hg : ∀ w ∈ lw_good, w.before #[Value.ref b] s = true := fun w h => hts w (List.mem_filter.mp h).1
  have hown : s.vm.findClass RL = some m.cls := hown
  have hSVz := (ZS.svhi hXS).1
  obtain ⟨z0, z1, z4, z5, z6, z7, z8, z9, z10, z11, z12, z13, z14, z15, z16, z17, z18, z19, K, L, M, rfl, i1, b2, b3, i6, i7, i8, i9, b10, i11, i12, i13, i14, i15, b16, i17, i19, hW, hGI, hR5, hZP, hZS, hWH, hZG, hTN⟩ := hXS
  have hFc : ∀ q, va_A ([(za, (b13_0 z0 z1 (nI z2) (nI z3) z4 z5 z6 z7 z8 z9 (nI z10) z11 z12 z13 z14 z15 (nI z16) z17 z18 z19))] ++ va_pl L M) H.size q → A q := pg_free hD1 hS hA
  refine va_calli (va_runV (As := [.int k1, .int k2]) (rest := []) ⟨hx, hb, hml, hown, hg⟩ (z_rule l D cy K L M H.size za z0 z1 z2 z3 z4 z5 z6 z7 z8 z9 z10 z11 z12 z13 z14 z15 z16 z17 z18 z19 k1 k2 SX SY hW i1 b2 b3 i6 i7 i8 i9 b10 i11 i12 i13 i14 i15 b16 i17 i19 hGI hZS) (cwV 2 hg (gV wd_1115 wd_1116 wd_1117 wd_717 wd_1118) rfl rfl rfl (by decide +kernel) ⟨(Nat.le_of_ble_eq_true rfl), (Nat.le_of_ble_eq_true rfl)⟩) ⟨PG.blind, va_recv hK hP1 (ci := 13) (q0 := 0) rfl rfl, fun U hU hW9 => ⟨rfl, PG.at hP1 hK hD1 hN hU hW9⟩⟩ rfl rfl hl.1 rfl (lv_room (Nat.le_of_ble_eq_true rfl)) dL_law_605 hcs) hS (fun q _ h => hFc q h) hFc (fun r u t H1 locs1 ht hvm hw hB hz1 hk1 hS1 => ?_)
  obtain ⟨hW9, hF9, hG9, hVP, hpost⟩ := hw
  obtain ⟨w4, hP9, hD9⟩ := hB
  rw [ht] at hP9
  obtain ⟨hQ9, hap9⟩ := hap.step hP2 hk1 hD9
  obtain ⟨hGI9, g9, hc9, hZS9⟩ := hVP
  exact kk r _ H1 locs1 hpost ⟨g9, hc9, ⟨0, z1, w4, (-1), z6, z7, z8, z9, z10, z11, z12, z13, z14, z15, z16, z17, z18, z19, K, L, u, rfl, i1, b2, b3, i6, i7, i8, i9, b10, i11, i12, i13, i14, i15, b16, i17, i19, hW9, hGI9, (R5.mv hR5 i6 i7 hF9 (by decide) (by decide)), (ZP.mv hZP i6 i7 hF9 (by decide) (by decide)), hZS9, rfl, (ZGC.mv hZG i8 hF9 (by decide)), (TNN.rule hTN hc9 (fun k hk => (hSVz k hk).b11.1))⟩⟩ hP9 hQ9 (hD9.mono hFc) hap9 hS1
set_option maxHeartbeats 4000000 in
set_option maxRecDepth 100000 in
theorem cz_term {p : Program} {l : Launch} {e : Env} {s : State} {m : MethodId} {below : List Frame} {meth : Method} {c : Code} {b Ln : Nat} {xs : Nat → Int32} (C0 : lw_At p s m meth c b Ln xs) {D : va_G} {cy : Nat → ClassId} {A : Nat → Prop} (hA : ∀ q, s.heap.size ≤ q → A q) (hN : NW s) (hK : va_K D vwCl (tysC cy) s) (hST : STAT A s) {za z2 z3 : Nat} {PK PT : Nat → Int32} {SX : Nat → Nat → Int} {SY : Nat → Nat → Nat → Int32} {WH : Int32} {CA : Nat → Int32} {Wa Wb : va_W} {H : Heap} {locs : List Loc} {cells slots : Nat} {ls : Array Slot} {lv : List (Nat × Value)} (k1 : Int32) (k2 : Int32) (k3 : Int32) (k4 : Int32)  (hcs : cells + 0 ≤ 600000 ∧ slots + 0 ≤ 7302250) (hXS : ZS cy za z2 z3 PK PT SX SY WH CA Wa) (hP1 : va_P D vwCl Wa H) (hP2 : va_P D vwCl Wb H) (hD1 : va_D A Wa) (hap : APT Wa Wb) (hS : va_S A s.heap H locs) (hl : lv_has ls 4 lv) (kk : ∀ (r : Int32) (Wc : va_W) (H1 : Heap) (locs1 : List Loc), r = anTm z2 SX SY k1 k2 k3 k4 → ZS cy za z2 z3 PK PT SX (syTm z2 SX SY k1 k2 k3 k4) (-1) CA Wc → va_P D vwCl Wc H1 → va_P D vwCl Wb H1 → va_D A Wc → APT Wc Wb → va_S A s.heap H1 locs1 → W p l e room_1 s m #[Value.ref b] below meth c H1 locs1 (cells + 0) (slots + 0) (lw_Z below #[Value.ref b] s) (F0 m 661 ls [.int r])) : W p l e room_1 s m #[Value.ref b] below meth c H locs cells slots (lw_Z below #[Value.ref b] s) (F0 m 658 ls [.int k4, .int k3, .int k2, .int k1, .ref za]) := by
  obtain ⟨hx, hb, hr, hml, hown, hts, hX, hbl, hlocks, hgv⟩ := id C0
  have hg : ∀ w ∈ lw_good, w.before #[Value.ref b] s = true := fun w h => hts w (List.mem_filter.mp h).1
  have hown : s.vm.findClass RL = some m.cls := hown
  have hSVz := (ZS.svhi hXS).1
  obtain ⟨z0, z1, z4, z5, z6, z7, z8, z9, z10, z11, z12, z13, z14, z15, z16, z17, z18, z19, K, L, M, rfl, i1, b2, b3, i6, i7, i8, i9, b10, i11, i12, i13, i14, i15, b16, i17, i19, hW, hGI, hR5, hZP, hZS, hWH, hZG, hTN⟩ := hXS
  have hFc : ∀ q, va_A ([(za, (b13_0 z0 z1 (nI z2) (nI z3) z4 z5 z6 z7 z8 z9 (nI z10) z11 z12 z13 z14 z15 (nI z16) z17 z18 z19))] ++ va_pl L M) H.size q → A q := pg_free hD1 hS hA
  refine va_calli (va_runV (As := [.int k1, .int k2, .int k3, .int k4]) (rest := []) ⟨hx, hb, hml, hown, hg⟩ (z_term l D cy K L M H.size za z0 z1 z2 z3 z4 z5 z6 z7 z8 z9 z10 z11 z12 z13 z14 z15 z16 z17 z18 z19 k1 k2 k3 k4 SX SY hW i1 b2 b3 i6 i7 i8 i9 b10 i11 i12 i13 i14 i15 b16 i17 i19 hGI hZS) (cwV 4 hg (gV wd_1119 wd_1120 wd_1121 wd_717 wd_1122) rfl rfl rfl (by decide +kernel) ⟨(Nat.le_of_ble_eq_true rfl), (Nat.le_of_ble_eq_true rfl)⟩) ⟨PG.blind, va_recv hK hP1 (ci := 13) (q0 := 0) rfl rfl, fun U hU hW9 => ⟨rfl, PG.at hP1 hK hD1 hN hU hW9⟩⟩ rfl rfl hl.1 rfl (lv_room (Nat.le_of_ble_eq_true rfl)) dL_law_658 hcs) hS (fun q _ h => hFc q h) hFc (fun r u t H1 locs1 ht hvm hw hB hz1 hk1 hS1 => ?_)
  obtain ⟨hW9, hF9, hG9, hVP, hpost⟩ := hw
  obtain ⟨w4, hP9, hD9⟩ := hB
  rw [ht] at hP9
  obtain ⟨hQ9, hap9⟩ := hap.step hP2 hk1 hD9
  obtain ⟨hGI9, hZS9⟩ := hVP
  exact kk r _ H1 locs1 hpost ⟨0, z1, w4, (-1), z6, z7, z8, z9, z10, z11, z12, z13, z14, z15, z16, z17, z18, z19, K, L, u, rfl, i1, b2, b3, i6, i7, i8, i9, b10, i11, i12, i13, i14, i15, b16, i17, i19, hW9, hGI9, (R5.mv hR5 i6 i7 hF9 (by decide) (by decide)), (ZP.mv hZP i6 i7 hF9 (by decide) (by decide)), hZS9, rfl, (ZGC.mv hZG i8 hF9 (by decide)), (TNN.term hTN)⟩ hP9 hQ9 (hD9.mono hFc) hap9 hS1
set_option maxHeartbeats 4000000 in
set_option maxRecDepth 100000 in
theorem cz_leaf {p : Program} {l : Launch} {e : Env} {s : State} {m : MethodId} {below : List Frame} {meth : Method} {c : Code} {b Ln : Nat} {xs : Nat → Int32} (C0 : lw_At p s m meth c b Ln xs) {D : va_G} {cy : Nat → ClassId} {A : Nat → Prop} (hA : ∀ q, s.heap.size ≤ q → A q) (hN : NW s) (hK : va_K D vwCl (tysC cy) s) (hST : STAT A s) {za z2 z3 : Nat} {PK PT : Nat → Int32} {SX : Nat → Nat → Int} {SY : Nat → Nat → Nat → Int32} {WH : Int32} {CA : Nat → Int32} {Wa Wb : va_W} {H : Heap} {locs : List Loc} {cells slots : Nat} {ls : Array Slot} {lv : List (Nat × Value)} (k1 : Int32) (k2 : Int32) (k3 : Int32) (k4 : Int32)  (hcs : cells + 0 ≤ 600000 ∧ slots + 0 ≤ 7302250) (hXS : ZS cy za z2 z3 PK PT SX SY WH CA Wa) (hP1 : va_P D vwCl Wa H) (hP2 : va_P D vwCl Wb H) (hD1 : va_D A Wa) (hap : APT Wa Wb) (hS : va_S A s.heap H locs) (hl : lv_has ls 4 lv) (kk : ∀ (r : Int32) (Wc : va_W) (H1 : Heap) (locs1 : List Loc), r = anLf z2 SX k1 k2 k3 k4 → ZS cy za z2 z3 PK PT (sxLf z2 SX k1 k2 k3 k4) (syLf z2 SX SY k1 k2 k3 k4) (-1) CA Wc → va_P D vwCl Wc H1 → va_P D vwCl Wb H1 → va_D A Wc → APT Wc Wb → va_S A s.heap H1 locs1 → W p l e room_1 s m #[Value.ref b] below meth c H1 locs1 (cells + 0) (slots + 0) (lw_Z below #[Value.ref b] s) (F0 m 714 ls [.int r])) : W p l e room_1 s m #[Value.ref b] below meth c H locs cells slots (lw_Z below #[Value.ref b] s) (F0 m 711 ls [.int k4, .int k3, .int k2, .int k1, .ref za]) := by
  obtain ⟨hx, hb, hr, hml, hown, hts, hX, hbl, hlocks, hgv⟩ := id C0
  have hg : ∀ w ∈ lw_good, w.before #[Value.ref b] s = true := fun w h => hts w (List.mem_filter.mp h).1
  have hown : s.vm.findClass RL = some m.cls := hown
  have hSVz := (ZS.svhi hXS).1
  obtain ⟨z0, z1, z4, z5, z6, z7, z8, z9, z10, z11, z12, z13, z14, z15, z16, z17, z18, z19, K, L, M, rfl, i1, b2, b3, i6, i7, i8, i9, b10, i11, i12, i13, i14, i15, b16, i17, i19, hW, hGI, hR5, hZP, hZS, hWH, hZG, hTN⟩ := hXS
  have hFc : ∀ q, va_A ([(za, (b13_0 z0 z1 (nI z2) (nI z3) z4 z5 z6 z7 z8 z9 (nI z10) z11 z12 z13 z14 z15 (nI z16) z17 z18 z19))] ++ va_pl L M) H.size q → A q := pg_free hD1 hS hA
  refine va_calli (va_runV (As := [.int k1, .int k2, .int k3, .int k4]) (rest := []) ⟨hx, hb, hml, hown, hg⟩ (z_leaf l D cy K L M H.size za z0 z1 z2 z3 z4 z5 z6 z7 z8 z9 z10 z11 z12 z13 z14 z15 z16 z17 z18 z19 k1 k2 k3 k4 SX SY hW i1 b2 b3 i6 i7 i8 i9 b10 i11 i12 i13 i14 i15 b16 i17 i19 hGI hZS) (cwV 4 hg (gV wd_1123 wd_1124 wd_1125 wd_717 wd_1126) rfl rfl rfl (by decide +kernel) ⟨(Nat.le_of_ble_eq_true rfl), (Nat.le_of_ble_eq_true rfl)⟩) ⟨PG.blind, va_recv hK hP1 (ci := 13) (q0 := 0) rfl rfl, fun U hU hW9 => ⟨rfl, PG.at hP1 hK hD1 hN hU hW9⟩⟩ rfl rfl hl.1 rfl (lv_room (Nat.le_of_ble_eq_true rfl)) dL_law_711 hcs) hS (fun q _ h => hFc q h) hFc (fun r u t H1 locs1 ht hvm hw hB hz1 hk1 hS1 => ?_)
  obtain ⟨hW9, hF9, hG9, hVP, hpost⟩ := hw
  obtain ⟨w4, hP9, hD9⟩ := hB
  rw [ht] at hP9
  obtain ⟨hQ9, hap9⟩ := hap.step hP2 hk1 hD9
  obtain ⟨hGI9, hZS9⟩ := hVP
  exact kk r _ H1 locs1 hpost ⟨0, z1, w4, (-1), z6, z7, z8, z9, z10, z11, z12, z13, z14, z15, z16, z17, z18, z19, K, L, u, rfl, i1, b2, b3, i6, i7, i8, i9, b10, i11, i12, i13, i14, i15, b16, i17, i19, hW9, hGI9, (R5.mv hR5 i6 i7 hF9 (by decide) (by decide)), (ZP.mv hZP i6 i7 hF9 (by decide) (by decide)), hZS9, rfl, (ZGC.mv hZG i8 hF9 (by decide)), (TNN.cg hTN (fun j => by unfold sxLf; repeat' (first | rfl | exact vaR (by rfl) j | exact vaR (lKdn _ _ _ _ _ (by decide)) j | exact vaR ((va_up_ne _ _ (by decide)).trans (lKdn _ _ _ _ _ (by decide))) j | refine iteR ?_ ?_)) (fun j => by unfold syLf; repeat' (first | rfl | exact vaR (by rfl) j | exact vaR (lKdn _ _ _ _ _ (by decide)) j | exact vaR ((va_up_ne _ _ (by decide)).trans (lKdn _ _ _ _ _ (by decide))) j | refine iteR ?_ ?_)))⟩ hP9 hQ9 (hD9.mono hFc) hap9 hS1
set_option maxHeartbeats 4000000 in
set_option maxRecDepth 100000 in
theorem cz_tear {p : Program} {l : Launch} {e : Env} {s : State} {m : MethodId} {below : List Frame} {meth : Method} {c : Code} {b Ln : Nat} {xs : Nat → Int32} (C0 : lw_At p s m meth c b Ln xs) {D : va_G} {cy : Nat → ClassId} {A : Nat → Prop} (hA : ∀ q, s.heap.size ≤ q → A q) (hN : NW s) (hK : va_K D vwCl (tysC cy) s) (hST : STAT A s) {za z2 z3 : Nat} {PK PT : Nat → Int32} {SX : Nat → Nat → Int} {SY : Nat → Nat → Nat → Int32} {WH : Int32} {CA : Nat → Int32} {Wa Wb : va_W} {H : Heap} {locs : List Loc} {cells slots : Nat} {ls : Array Slot} {lv : List (Nat × Value)} (k1 : Int32) (k2 : Int32)  (hcs : cells + 0 ≤ 600000 ∧ slots + 0 ≤ 7302250) (hXS : ZS cy za z2 z3 PK PT SX SY WH CA Wa) (hP1 : va_P D vwCl Wa H) (hP2 : va_P D vwCl Wb H) (hD1 : va_D A Wa) (hap : APT Wa Wb) (hS : va_S A s.heap H locs) (hl : lv_has ls 4 lv) (kk : ∀ (r : Int32) (Wc : va_W) (H1 : Heap) (locs1 : List Loc), r = anTr z2 SX SY k1 k2 → ZS cy za z2 z3 PK PT (sxTr z2 SX SY k1 k2) (syTr z2 SX SY k1 k2) (-1) CA Wc → va_P D vwCl Wc H1 → va_P D vwCl Wb H1 → va_D A Wc → APT Wc Wb → va_S A s.heap H1 locs1 → W p l e room_1 s m #[Value.ref b] below meth c H1 locs1 (cells + 0) (slots + 0) (lw_Z below #[Value.ref b] s) (F0 m 747 ls [.int r])) : W p l e room_1 s m #[Value.ref b] below meth c H locs cells slots (lw_Z below #[Value.ref b] s) (F0 m 744 ls [.int k2, .int k1, .ref za]) := by
  obtain ⟨hx, hb, hr, hml, hown, hts, hX, hbl, hlocks, hgv⟩ := id C0
  have hg : ∀ w ∈ lw_good, w.before #[Value.ref b] s = true := fun w h => hts w (List.mem_filter.mp h).1
  have hown : s.vm.findClass RL = some m.cls := hown
  have hSVz := (ZS.svhi hXS).1
  obtain ⟨z0, z1, z4, z5, z6, z7, z8, z9, z10, z11, z12, z13, z14, z15, z16, z17, z18, z19, K, L, M, rfl, i1, b2, b3, i6, i7, i8, i9, b10, i11, i12, i13, i14, i15, b16, i17, i19, hW, hGI, hR5, hZP, hZS, hWH, hZG, hTN⟩ := hXS
  have hFc : ∀ q, va_A ([(za, (b13_0 z0 z1 (nI z2) (nI z3) z4 z5 z6 z7 z8 z9 (nI z10) z11 z12 z13 z14 z15 (nI z16) z17 z18 z19))] ++ va_pl L M) H.size q → A q := pg_free hD1 hS hA
  refine va_calli (va_runV (As := [.int k1, .int k2]) (rest := []) ⟨hx, hb, hml, hown, hg⟩ (z_tear l D cy K L M H.size za z0 z1 z2 z3 z4 z5 z6 z7 z8 z9 z10 z11 z12 z13 z14 z15 z16 z17 z18 z19 k1 k2 SX SY hW i1 b2 b3 i6 i7 i8 i9 b10 i11 i12 i13 i14 i15 b16 i17 i19 hGI hZS) (cwV 2 hg (gV wd_1127 wd_1128 wd_1129 wd_717 wd_1130) rfl rfl rfl (by decide +kernel) ⟨(Nat.le_of_ble_eq_true rfl), (Nat.le_of_ble_eq_true rfl)⟩) ⟨PG.blind, va_recv hK hP1 (ci := 13) (q0 := 0) rfl rfl, fun U hU hW9 => ⟨rfl, PG.at hP1 hK hD1 hN hU hW9⟩⟩ rfl rfl hl.1 rfl (lv_room (Nat.le_of_ble_eq_true rfl)) dL_law_744 hcs) hS (fun q _ h => hFc q h) hFc (fun r u t H1 locs1 ht hvm hw hB hz1 hk1 hS1 => ?_)
  obtain ⟨hW9, hF9, hG9, hVP, hpost⟩ := hw
  obtain ⟨w4, hP9, hD9⟩ := hB
  rw [ht] at hP9
  obtain ⟨hQ9, hap9⟩ := hap.step hP2 hk1 hD9
  obtain ⟨hGI9, hZS9⟩ := hVP
  exact kk r _ H1 locs1 hpost ⟨0, z1, w4, (-1), z6, z7, z8, z9, z10, z11, z12, z13, z14, z15, z16, z17, z18, z19, K, L, u, rfl, i1, b2, b3, i6, i7, i8, i9, b10, i11, i12, i13, i14, i15, b16, i17, i19, hW9, hGI9, (R5.mv hR5 i6 i7 hF9 (by decide) (by decide)), (ZP.mv hZP i6 i7 hF9 (by decide) (by decide)), hZS9, rfl, (ZGC.mv hZG i8 hF9 (by decide)), (TNN.cg hTN (fun j => by unfold sxTr; repeat' (first | rfl | exact vaR (by rfl) j | exact vaR (lKdn _ _ _ _ _ (by decide)) j | exact vaR ((va_up_ne _ _ (by decide)).trans (lKdn _ _ _ _ _ (by decide))) j | refine iteR ?_ ?_)) (fun j => by unfold syTr; repeat' (first | rfl | exact vaR (by rfl) j | exact vaR (lKdn _ _ _ _ _ (by decide)) j | exact vaR ((va_up_ne _ _ (by decide)).trans (lKdn _ _ _ _ _ (by decide))) j | refine iteR ?_ ?_)))⟩ hP9 hQ9 (hD9.mono hFc) hap9 hS1
set_option maxHeartbeats 4000000 in
set_option maxRecDepth 100000 in
theorem cz_earn {p : Program} {l : Launch} {e : Env} {s : State} {m : MethodId} {below : List Frame} {meth : Method} {c : Code} {b Ln : Nat} {xs : Nat → Int32} (C0 : lw_At p s m meth c b Ln xs) {D : va_G} {cy : Nat → ClassId} {A : Nat → Prop} (hA : ∀ q, s.heap.size ≤ q → A q) (hN : NW s) (hK : va_K D vwCl (tysC cy) s) (hST : STAT A s) {za z2 z3 : Nat} {PK PT : Nat → Int32} {SX : Nat → Nat → Int} {SY : Nat → Nat → Nat → Int32} {WH : Int32} {CA : Nat → Int32} {Wa Wb : va_W} {H : Heap} {locs : List Loc} {cells slots : Nat} {ls : Array Slot} {lv : List (Nat × Value)} (k1 : Int32) (k2 : Int32) (k3 : Int32)  (hcs : cells + 0 ≤ 600000 ∧ slots + 0 ≤ 7302250) (hXS : ZS cy za z2 z3 PK PT SX SY WH CA Wa) (hP1 : va_P D vwCl Wa H) (hP2 : va_P D vwCl Wb H) (hD1 : va_D A Wa) (hap : APT Wa Wb) (hS : va_S A s.heap H locs) (hl : lv_has ls 4 lv) (kk : ∀ (r : Int32) (Wc : va_W) (H1 : Heap) (locs1 : List Loc), r = anEn z2 SX SY k1 k2 k3 1 → (∃ (n9 : Int) (l9 : Nat → Int32), (okEn z2 SX SY k1 k2 k3 1 → REMF (SX k1.toNatClampNeg 16) (SY k1.toNatClampNeg 43) k2 n9 l9) ∧ ZS cy za z2 z3 PK PT (sxEn z2 SX SY k1 k2 k3 1 n9) (syEn z2 SX SY k1 k2 k3 1 l9) (-1) CA Wc) → va_P D vwCl Wc H1 → va_P D vwCl Wb H1 → va_D A Wc → APT Wc Wb → va_S A s.heap H1 locs1 → W p l e room_1 s m #[Value.ref b] below meth c H1 locs1 (cells + 0) (slots + 0) (lw_Z below #[Value.ref b] s) (F0 m 790 ls [.int r])) : W p l e room_1 s m #[Value.ref b] below meth c H locs cells slots (lw_Z below #[Value.ref b] s) (F0 m 787 ls [.int k3, .int k2, .int k1, .ref za]) := by
  obtain ⟨hx, hb, hr, hml, hown, hts, hX, hbl, hlocks, hgv⟩ := id C0
  have hg : ∀ w ∈ lw_good, w.before #[Value.ref b] s = true := fun w h => hts w (List.mem_filter.mp h).1
  have hown : s.vm.findClass RL = some m.cls := hown
  have hSVz := (ZS.svhi hXS).1
  obtain ⟨z0, z1, z4, z5, z6, z7, z8, z9, z10, z11, z12, z13, z14, z15, z16, z17, z18, z19, K, L, M, rfl, i1, b2, b3, i6, i7, i8, i9, b10, i11, i12, i13, i14, i15, b16, i17, i19, hW, hGI, hR5, hZP, hZS, hWH, hZG, hTN⟩ := hXS
  have hFc : ∀ q, va_A ([(za, (b13_0 z0 z1 (nI z2) (nI z3) z4 z5 z6 z7 z8 z9 (nI z10) z11 z12 z13 z14 z15 (nI z16) z17 z18 z19))] ++ va_pl L M) H.size q → A q := pg_free hD1 hS hA
  refine va_calli (va_runV (As := [.int k1, .int k2, .int k3]) (rest := []) ⟨hx, hb, hml, hown, hg⟩ (z_earn l D cy K L M H.size za z0 z1 z2 z3 z4 z5 z6 z7 z8 z9 z10 z11 z12 z13 z14 z15 z16 z17 z18 z19 k1 k2 k3 SX SY hW i1 b2 b3 i6 i7 i8 i9 b10 i11 i12 i13 i14 i15 b16 i17 i19 hGI hZS) (cwV 3 hg (gV wd_1131 wd_1132 wd_1133 wd_717 wd_1134) rfl rfl rfl (by decide +kernel) ⟨(Nat.le_of_ble_eq_true rfl), (Nat.le_of_ble_eq_true rfl)⟩) ⟨PG.blind, va_recv hK hP1 (ci := 13) (q0 := 0) rfl rfl, fun U hU hW9 => ⟨rfl, PG.at hP1 hK hD1 hN hU hW9⟩⟩ rfl rfl hl.1 rfl (lv_room (Nat.le_of_ble_eq_true rfl)) dL_law_787 hcs) hS (fun q _ h => hFc q h) hFc (fun r u t H1 locs1 ht hvm hw hB hz1 hk1 hS1 => ?_)
  obtain ⟨hW9, hF9, hG9, hVP, hpost⟩ := hw
  obtain ⟨w4, hP9, hD9⟩ := hB
  rw [ht] at hP9
  obtain ⟨hQ9, hap9⟩ := hap.step hP2 hk1 hD9
  obtain ⟨hGI9, n9, l9, hc9, hZS9⟩ := hVP
  exact kk r _ H1 locs1 hpost ⟨n9, l9, hc9, ⟨0, z1, w4, (-1), z6, z7, z8, z9, z10, z11, z12, z13, z14, z15, z16, z17, z18, z19, K, L, u, rfl, i1, b2, b3, i6, i7, i8, i9, b10, i11, i12, i13, i14, i15, b16, i17, i19, hW9, hGI9, (R5.mv hR5 i6 i7 hF9 (by decide) (by decide)), (ZP.mv hZP i6 i7 hF9 (by decide) (by decide)), hZS9, rfl, (ZGC.mv hZG i8 hF9 (by decide)), (TNN.cg hTN (fun j => by unfold sxEn; repeat' (first | rfl | exact vaR (by rfl) j | exact vaR (lKdn _ _ _ _ _ (by decide)) j | exact vaR ((va_up_ne _ _ (by decide)).trans (lKdn _ _ _ _ _ (by decide))) j | refine iteR ?_ ?_)) (fun j => by unfold syEn; repeat' (first | rfl | exact vaR (by rfl) j | exact vaR (lKdn _ _ _ _ _ (by decide)) j | exact vaR ((va_up_ne _ _ (by decide)).trans (lKdn _ _ _ _ _ (by decide))) j | refine iteR ?_ ?_)))⟩⟩ hP9 hQ9 (hD9.mono hFc) hap9 hS1
set_option maxHeartbeats 4000000 in
set_option maxRecDepth 100000 in
theorem cz_spend {p : Program} {l : Launch} {e : Env} {s : State} {m : MethodId} {below : List Frame} {meth : Method} {c : Code} {b Ln : Nat} {xs : Nat → Int32} (C0 : lw_At p s m meth c b Ln xs) {D : va_G} {cy : Nat → ClassId} {A : Nat → Prop} (hA : ∀ q, s.heap.size ≤ q → A q) (hN : NW s) (hK : va_K D vwCl (tysC cy) s) (hST : STAT A s) {za z2 z3 : Nat} {PK PT : Nat → Int32} {SX : Nat → Nat → Int} {SY : Nat → Nat → Nat → Int32} {WH : Int32} {CA : Nat → Int32} {Wa Wb : va_W} {H : Heap} {locs : List Loc} {cells slots : Nat} {ls : Array Slot} {lv : List (Nat × Value)} (k1 : Int32) (k2 : Int32) (k3 : Int32)  (hcs : cells + 0 ≤ 600000 ∧ slots + 0 ≤ 7302250) (hXS : ZS cy za z2 z3 PK PT SX SY WH CA Wa) (hP1 : va_P D vwCl Wa H) (hP2 : va_P D vwCl Wb H) (hD1 : va_D A Wa) (hap : APT Wa Wb) (hS : va_S A s.heap H locs) (hl : lv_has ls 4 lv) (kk : ∀ (r : Int32) (Wc : va_W) (H1 : Heap) (locs1 : List Loc), r = anEn z2 SX SY k1 k2 k3 (-1) → (∃ (n9 : Int) (l9 : Nat → Int32), (okEn z2 SX SY k1 k2 k3 (-1) → REMF (SX k1.toNatClampNeg 16) (SY k1.toNatClampNeg 43) k2 n9 l9) ∧ ZS cy za z2 z3 PK PT (sxEn z2 SX SY k1 k2 k3 (-1) n9) (syEn z2 SX SY k1 k2 k3 (-1) l9) (-1) CA Wc) → va_P D vwCl Wc H1 → va_P D vwCl Wb H1 → va_D A Wc → APT Wc Wb → va_S A s.heap H1 locs1 → W p l e room_1 s m #[Value.ref b] below meth c H1 locs1 (cells + 0) (slots + 0) (lw_Z below #[Value.ref b] s) (F0 m 833 ls [.int r])) : W p l e room_1 s m #[Value.ref b] below meth c H locs cells slots (lw_Z below #[Value.ref b] s) (F0 m 830 ls [.int k3, .int k2, .int k1, .ref za]) := by
  obtain ⟨hx, hb, hr, hml, hown, hts, hX, hbl, hlocks, hgv⟩ := id C0
  have hg : ∀ w ∈ lw_good, w.before #[Value.ref b] s = true := fun w h => hts w (List.mem_filter.mp h).1
  have hown : s.vm.findClass RL = some m.cls := hown
  have hSVz := (ZS.svhi hXS).1
  obtain ⟨z0, z1, z4, z5, z6, z7, z8, z9, z10, z11, z12, z13, z14, z15, z16, z17, z18, z19, K, L, M, rfl, i1, b2, b3, i6, i7, i8, i9, b10, i11, i12, i13, i14, i15, b16, i17, i19, hW, hGI, hR5, hZP, hZS, hWH, hZG, hTN⟩ := hXS
  have hFc : ∀ q, va_A ([(za, (b13_0 z0 z1 (nI z2) (nI z3) z4 z5 z6 z7 z8 z9 (nI z10) z11 z12 z13 z14 z15 (nI z16) z17 z18 z19))] ++ va_pl L M) H.size q → A q := pg_free hD1 hS hA
  refine va_calli (va_runV (As := [.int k1, .int k2, .int k3]) (rest := []) ⟨hx, hb, hml, hown, hg⟩ (z_spend l D cy K L M H.size za z0 z1 z2 z3 z4 z5 z6 z7 z8 z9 z10 z11 z12 z13 z14 z15 z16 z17 z18 z19 k1 k2 k3 SX SY hW i1 b2 b3 i6 i7 i8 i9 b10 i11 i12 i13 i14 i15 b16 i17 i19 hGI hZS) (cwV 3 hg (gV wd_1135 wd_1136 wd_1137 wd_717 wd_1138) rfl rfl rfl (by decide +kernel) ⟨(Nat.le_of_ble_eq_true rfl), (Nat.le_of_ble_eq_true rfl)⟩) ⟨PG.blind, va_recv hK hP1 (ci := 13) (q0 := 0) rfl rfl, fun U hU hW9 => ⟨rfl, PG.at hP1 hK hD1 hN hU hW9⟩⟩ rfl rfl hl.1 rfl (lv_room (Nat.le_of_ble_eq_true rfl)) dL_law_830 hcs) hS (fun q _ h => hFc q h) hFc (fun r u t H1 locs1 ht hvm hw hB hz1 hk1 hS1 => ?_)
  obtain ⟨hW9, hF9, hG9, hVP, hpost⟩ := hw
  obtain ⟨w4, hP9, hD9⟩ := hB
  rw [ht] at hP9
  obtain ⟨hQ9, hap9⟩ := hap.step hP2 hk1 hD9
  obtain ⟨hGI9, n9, l9, hc9, hZS9⟩ := hVP
  exact kk r _ H1 locs1 hpost ⟨n9, l9, hc9, ⟨0, z1, w4, (-1), z6, z7, z8, z9, z10, z11, z12, z13, z14, z15, z16, z17, z18, z19, K, L, u, rfl, i1, b2, b3, i6, i7, i8, i9, b10, i11, i12, i13, i14, i15, b16, i17, i19, hW9, hGI9, (R5.mv hR5 i6 i7 hF9 (by decide) (by decide)), (ZP.mv hZP i6 i7 hF9 (by decide) (by decide)), hZS9, rfl, (ZGC.mv hZG i8 hF9 (by decide)), (TNN.cg hTN (fun j => by unfold sxEn; repeat' (first | rfl | exact vaR (by rfl) j | exact vaR (lKdn _ _ _ _ _ (by decide)) j | exact vaR ((va_up_ne _ _ (by decide)).trans (lKdn _ _ _ _ _ (by decide))) j | refine iteR ?_ ?_)) (fun j => by unfold syEn; repeat' (first | rfl | exact vaR (by rfl) j | exact vaR (lKdn _ _ _ _ _ (by decide)) j | exact vaR ((va_up_ne _ _ (by decide)).trans (lKdn _ _ _ _ _ (by decide))) j | refine iteR ?_ ?_)))⟩⟩ hP9 hQ9 (hD9.mono hFc) hap9 hS1
set_option maxHeartbeats 4000000 in
set_option maxRecDepth 100000 in
theorem cz_loose {p : Program} {l : Launch} {e : Env} {s : State} {m : MethodId} {below : List Frame} {meth : Method} {c : Code} {b Ln : Nat} {xs : Nat → Int32} (C0 : lw_At p s m meth c b Ln xs) {D : va_G} {cy : Nat → ClassId} {A : Nat → Prop} (hA : ∀ q, s.heap.size ≤ q → A q) (hN : NW s) (hK : va_K D vwCl (tysC cy) s) (hST : STAT A s) {za z2 z3 : Nat} {PK PT : Nat → Int32} {SX : Nat → Nat → Int} {SY : Nat → Nat → Nat → Int32} {WH : Int32} {CA : Nat → Int32} {Wa Wb : va_W} {H : Heap} {locs : List Loc} {cells slots : Nat} {ls : Array Slot} {lv : List (Nat × Value)} (k1 : Int32) (k2 : Int32)  (hcs : cells + 0 ≤ 600000 ∧ slots + 0 ≤ 7302250) (hXS : ZS cy za z2 z3 PK PT SX SY WH CA Wa) (hP1 : va_P D vwCl Wa H) (hP2 : va_P D vwCl Wb H) (hD1 : va_D A Wa) (hap : APT Wa Wb) (hS : va_S A s.heap H locs) (hl : lv_has ls 4 lv) (kk : ∀ (r : Int32) (Wc : va_W) (H1 : Heap) (locs1 : List Loc), ZS cy za z2 z3 PK PT SX SY (-1) CA Wc → va_P D vwCl Wc H1 → va_P D vwCl Wb H1 → va_D A Wc → APT Wc Wb → va_S A s.heap H1 locs1 → W p l e room_1 s m #[Value.ref b] below meth c H1 locs1 (cells + 0) (slots + 0) (lw_Z below #[Value.ref b] s) (F0 m 866 ls [.int r])) : W p l e room_1 s m #[Value.ref b] below meth c H locs cells slots (lw_Z below #[Value.ref b] s) (F0 m 863 ls [.int k2, .int k1, .ref za]) := by
  obtain ⟨hx, hb, hr, hml, hown, hts, hX, hbl, hlocks, hgv⟩ := id C0
  have hg : ∀ w ∈ lw_good, w.before #[Value.ref b] s = true := fun w h => hts w (List.mem_filter.mp h).1
  have hown : s.vm.findClass RL = some m.cls := hown
  have hSVz := (ZS.svhi hXS).1
  obtain ⟨z0, z1, z4, z5, z6, z7, z8, z9, z10, z11, z12, z13, z14, z15, z16, z17, z18, z19, K, L, M, rfl, i1, b2, b3, i6, i7, i8, i9, b10, i11, i12, i13, i14, i15, b16, i17, i19, hW, hGI, hR5, hZP, hZS, hWH, hZG, hTN⟩ := hXS
  have hFc : ∀ q, va_A ([(za, (b13_0 z0 z1 (nI z2) (nI z3) z4 z5 z6 z7 z8 z9 (nI z10) z11 z12 z13 z14 z15 (nI z16) z17 z18 z19))] ++ va_pl L M) H.size q → A q := pg_free hD1 hS hA
  refine va_calli (va_runV (As := [.int k1, .int k2]) (rest := []) ⟨hx, hb, hml, hown, hg⟩ (r_X13_loose l D cy K L M H.size za z0 z1 z2 z3 z4 z5 z6 z7 z8 z9 z10 z11 z12 z13 z14 z15 z16 z17 z18 z19 k1 k2 hW i1 b2 b3 i6 i7 i8 i9 b10 i11 i12 i13 i14 i15 b16 i17 i19) (cwV 2 hg (gV wd_1139 wd_1140 wd_1141 wd_717 wd_1142) rfl rfl rfl (by decide +kernel) ⟨(Nat.le_of_ble_eq_true rfl), (Nat.le_of_ble_eq_true rfl)⟩) ⟨PG.blind, va_recv hK hP1 (ci := 13) (q0 := 0) rfl rfl, fun U hU hW9 => ⟨rfl, PG.at hP1 hK hD1 hN hU hW9⟩⟩ rfl rfl hl.1 rfl (lv_room (Nat.le_of_ble_eq_true rfl)) dL_law_863 hcs) hS (fun q _ h => hFc q h) hFc (fun r u t H1 locs1 ht hvm hw hB hz1 hk1 hS1 => ?_)
  obtain ⟨hW9, hF9, hG9, hpost⟩ := hw
  obtain ⟨w4, hP9, hD9⟩ := hB
  rw [ht] at hP9
  obtain ⟨hQ9, hap9⟩ := hap.step hP2 hk1 hD9
  exact kk r _ H1 locs1 ⟨0, z1, w4, (-1), z6, z7, z8, z9, z10, z11, z12, z13, z14, z15, z16, z17, z18, z19, K, L, u, rfl, i1, b2, b3, i6, i7, i8, i9, b10, i11, i12, i13, i14, i15, b16, i17, i19, hW9, (GI.mv hW hW9 i1 b2 hGI hF9 hG9 (by decide) (by decide) (by decide)), (R5.mv hR5 i6 i7 hF9 (by decide) (by decide)), (ZP.mv hZP i6 i7 hF9 (by decide) (by decide)), (ZSx.mv hW hW9 i1 b2 hZS hF9 hG9 (by decide) (by decide) (by decide)), rfl, (ZGC.mv hZG i8 hF9 (by decide)), hTN⟩ hP9 hQ9 (hD9.mono hFc) hap9 hS1
set_option maxHeartbeats 4000000 in
set_option maxRecDepth 100000 in
theorem cz_move {p : Program} {l : Launch} {e : Env} {s : State} {m : MethodId} {below : List Frame} {meth : Method} {c : Code} {b Ln : Nat} {xs : Nat → Int32} (C0 : lw_At p s m meth c b Ln xs) {D : va_G} {cy : Nat → ClassId} {A : Nat → Prop} (hA : ∀ q, s.heap.size ≤ q → A q) (hN : NW s) (hK : va_K D vwCl (tysC cy) s) (hST : STAT A s) {za z2 z3 : Nat} {PK PT : Nat → Int32} {SX : Nat → Nat → Int} {SY : Nat → Nat → Nat → Int32} {WH : Int32} {CA : Nat → Int32} {Wa Wb : va_W} {H : Heap} {locs : List Loc} {cells slots : Nat} {ls : Array Slot} {lv : List (Nat × Value)} (k1 : Int32) (k2 : Int32) (k3 : Int32) (k4 : Int32) (k5 : Int32) (zk5 : (k5 = 0 ∨ k5 = 1)) (hcs : cells + 0 ≤ 600000 ∧ slots + 0 ≤ 7302250) (hXS : ZS cy za z2 z3 PK PT SX SY WH CA Wa) (hP1 : va_P D vwCl Wa H) (hP2 : va_P D vwCl Wb H) (hD1 : va_D A Wa) (hap : APT Wa Wb) (hS : va_S A s.heap H locs) (hl : lv_has ls 4 lv) (kk : ∀ (r : Int32) (Wc : va_W) (H1 : Heap) (locs1 : List Loc), r = anMv z2 SX SY k1 k2 k3 k4 → (∃ (n9 : Int) (l9 : Nat → Int32), (okMv z2 SX SY k1 k2 k3 k4 → REMF (SX k1.toNatClampNeg 16) (SY k1.toNatClampNeg 43) (-1) n9 l9) ∧ ZS cy za z2 z3 PK PT (sxMv z2 SX SY k1 k2 k3 k4 n9) (syMv z2 SX SY k1 k2 k3 k4 k5 l9) (-1) CA Wc) → va_P D vwCl Wc H1 → va_P D vwCl Wb H1 → va_D A Wc → APT Wc Wb → va_S A s.heap H1 locs1 → W p l e room_1 s m #[Value.ref b] below meth c H1 locs1 (cells + 0) (slots + 0) (lw_Z below #[Value.ref b] s) (F0 m 945 ls [.int r])) : W p l e room_1 s m #[Value.ref b] below meth c H locs cells slots (lw_Z below #[Value.ref b] s) (F0 m 942 ls [.int k5, .int k4, .int k3, .int k2, .int k1, .ref za]) := by
  obtain ⟨hx, hb, hr, hml, hown, hts, hX, hbl, hlocks, hgv⟩ := id C0
  have hg : ∀ w ∈ lw_good, w.before #[Value.ref b] s = true := fun w h => hts w (List.mem_filter.mp h).1
  have hown : s.vm.findClass RL = some m.cls := hown
  have hSVz := (ZS.svhi hXS).1
  obtain ⟨z0, z1, z4, z5, z6, z7, z8, z9, z10, z11, z12, z13, z14, z15, z16, z17, z18, z19, K, L, M, rfl, i1, b2, b3, i6, i7, i8, i9, b10, i11, i12, i13, i14, i15, b16, i17, i19, hW, hGI, hR5, hZP, hZS, hWH, hZG, hTN⟩ := hXS
  have hFc : ∀ q, va_A ([(za, (b13_0 z0 z1 (nI z2) (nI z3) z4 z5 z6 z7 z8 z9 (nI z10) z11 z12 z13 z14 z15 (nI z16) z17 z18 z19))] ++ va_pl L M) H.size q → A q := pg_free hD1 hS hA
  refine va_calli (va_runV (As := [.int k1, .int k2, .int k3, .int k4, .int k5]) (rest := []) ⟨hx, hb, hml, hown, hg⟩ (z_move l D cy K L M H.size za z0 z1 z2 z3 z4 z5 z6 z7 z8 z9 z10 z11 z12 z13 z14 z15 z16 z17 z18 z19 k1 k2 k3 k4 k5 SX SY hW i1 b2 b3 i6 i7 i8 i9 b10 i11 i12 i13 i14 i15 b16 i17 i19 zk5 hGI hZS) (cwV 5 hg (gV wd_1143 wd_1144 wd_1145 wd_717 wd_1146) rfl rfl rfl (by decide +kernel) ⟨(Nat.le_of_ble_eq_true rfl), (Nat.le_of_ble_eq_true rfl)⟩) ⟨PG.blind, va_recv hK hP1 (ci := 13) (q0 := 0) rfl rfl, fun U hU hW9 => ⟨rfl, PG.at hP1 hK hD1 hN hU hW9⟩⟩ rfl rfl hl.1 rfl (lv_room (Nat.le_of_ble_eq_true rfl)) dL_law_942 hcs) hS (fun q _ h => hFc q h) hFc (fun r u t H1 locs1 ht hvm hw hB hz1 hk1 hS1 => ?_)
  obtain ⟨hW9, hF9, hG9, hVP, hpost⟩ := hw
  obtain ⟨w4, hP9, hD9⟩ := hB
  rw [ht] at hP9
  obtain ⟨hQ9, hap9⟩ := hap.step hP2 hk1 hD9
  obtain ⟨hGI9, n9, l9, hc9, hZS9⟩ := hVP
  exact kk r _ H1 locs1 hpost ⟨n9, l9, hc9, ⟨0, z1, w4, (-1), z6, z7, z8, z9, z10, z11, z12, z13, z14, z15, z16, z17, z18, z19, K, L, u, rfl, i1, b2, b3, i6, i7, i8, i9, b10, i11, i12, i13, i14, i15, b16, i17, i19, hW9, hGI9, (R5.mv hR5 i6 i7 hF9 (by decide) (by decide)), (ZP.mv hZP i6 i7 hF9 (by decide) (by decide)), hZS9, rfl, (ZGC.mv hZG i8 hF9 (by decide)), (TNN.cg hTN (fun j => by unfold sxMv; repeat' (first | rfl | exact vaR (by rfl) j | exact vaR (lKdn _ _ _ _ _ (by decide)) j | exact vaR ((va_up_ne _ _ (by decide)).trans (lKdn _ _ _ _ _ (by decide))) j | refine iteR ?_ ?_)) (fun j => by unfold syMv; repeat' (first | rfl | exact vaR (by rfl) j | exact vaR (lKdn _ _ _ _ _ (by decide)) j | exact vaR ((va_up_ne _ _ (by decide)).trans (lKdn _ _ _ _ _ (by decide))) j | refine iteR ?_ ?_)))⟩⟩ hP9 hQ9 (hD9.mono hFc) hap9 hS1
set_option maxHeartbeats 4000000 in
set_option maxRecDepth 100000 in
theorem cz_lend {p : Program} {l : Launch} {e : Env} {s : State} {m : MethodId} {below : List Frame} {meth : Method} {c : Code} {b Ln : Nat} {xs : Nat → Int32} (C0 : lw_At p s m meth c b Ln xs) {D : va_G} {cy : Nat → ClassId} {A : Nat → Prop} (hA : ∀ q, s.heap.size ≤ q → A q) (hN : NW s) (hK : va_K D vwCl (tysC cy) s) (hST : STAT A s) {za z2 z3 : Nat} {PK PT : Nat → Int32} {SX : Nat → Nat → Int} {SY : Nat → Nat → Nat → Int32} {WH : Int32} {CA : Nat → Int32} {Wa Wb : va_W} {H : Heap} {locs : List Loc} {cells slots : Nat} {ls : Array Slot} {lv : List (Nat × Value)} (k1 : Int32) (k2 : Int32) (k3 : Int32) (k4 : Int32) (zk4 : (k4 = 0 ∨ k4 = 1)) (hcs : cells + 0 ≤ 600000 ∧ slots + 0 ≤ 7302250) (hXS : ZS cy za z2 z3 PK PT SX SY WH CA Wa) (hP1 : va_P D vwCl Wa H) (hP2 : va_P D vwCl Wb H) (hD1 : va_D A Wa) (hap : APT Wa Wb) (hS : va_S A s.heap H locs) (hl : lv_has ls 4 lv) (kk : ∀ (r : Int32) (Wc : va_W) (H1 : Heap) (locs1 : List Loc), r = anLd z2 SX k1 k2 k3 k4 → ZS cy za z2 z3 PK PT (sxLd z2 SX k1 k2 k3 k4) SY (-1) CA Wc → va_P D vwCl Wc H1 → va_P D vwCl Wb H1 → va_D A Wc → APT Wc Wb → va_S A s.heap H1 locs1 → W p l e room_1 s m #[Value.ref b] below meth c H1 locs1 (cells + 0) (slots + 0) (lw_Z below #[Value.ref b] s) (F0 m 1014 ls [.int r])) : W p l e room_1 s m #[Value.ref b] below meth c H locs cells slots (lw_Z below #[Value.ref b] s) (F0 m 1011 ls [.int k4, .int k3, .int k2, .int k1, .ref za]) := by
  obtain ⟨hx, hb, hr, hml, hown, hts, hX, hbl, hlocks, hgv⟩ := id C0
  have hg : ∀ w ∈ lw_good, w.before #[Value.ref b] s = true := fun w h => hts w (List.mem_filter.mp h).1
  have hown : s.vm.findClass RL = some m.cls := hown
  have hSVz := (ZS.svhi hXS).1
  obtain ⟨z0, z1, z4, z5, z6, z7, z8, z9, z10, z11, z12, z13, z14, z15, z16, z17, z18, z19, K, L, M, rfl, i1, b2, b3, i6, i7, i8, i9, b10, i11, i12, i13, i14, i15, b16, i17, i19, hW, hGI, hR5, hZP, hZS, hWH, hZG, hTN⟩ := hXS
  have hFc : ∀ q, va_A ([(za, (b13_0 z0 z1 (nI z2) (nI z3) z4 z5 z6 z7 z8 z9 (nI z10) z11 z12 z13 z14 z15 (nI z16) z17 z18 z19))] ++ va_pl L M) H.size q → A q := pg_free hD1 hS hA
  refine va_calli (va_runV (As := [.int k1, .int k2, .int k3, .int k4]) (rest := []) ⟨hx, hb, hml, hown, hg⟩ (z_lend l D cy K L M H.size za z0 z1 z2 z3 z4 z5 z6 z7 z8 z9 z10 z11 z12 z13 z14 z15 z16 z17 z18 z19 k1 k2 k3 k4 SX SY hW i1 b2 b3 i6 i7 i8 i9 b10 i11 i12 i13 i14 i15 b16 i17 i19 zk4 hGI hZS) (cwV 4 hg (gV wd_1147 wd_1148 wd_1149 wd_717 wd_1150) rfl rfl rfl (by decide +kernel) ⟨(Nat.le_of_ble_eq_true rfl), (Nat.le_of_ble_eq_true rfl)⟩) ⟨PG.blind, va_recv hK hP1 (ci := 13) (q0 := 0) rfl rfl, fun U hU hW9 => ⟨rfl, PG.at hP1 hK hD1 hN hU hW9⟩⟩ rfl rfl hl.1 rfl (lv_room (Nat.le_of_ble_eq_true rfl)) dL_law_1011 hcs) hS (fun q _ h => hFc q h) hFc (fun r u t H1 locs1 ht hvm hw hB hz1 hk1 hS1 => ?_)
  obtain ⟨hW9, hF9, hG9, hVP, hpost⟩ := hw
  obtain ⟨w4, hP9, hD9⟩ := hB
  rw [ht] at hP9
  obtain ⟨hQ9, hap9⟩ := hap.step hP2 hk1 hD9
  obtain ⟨hGI9, hZS9⟩ := hVP
  exact kk r _ H1 locs1 hpost ⟨0, z1, w4, (-1), z6, z7, z8, z9, z10, z11, z12, z13, z14, z15, z16, z17, z18, z19, K, L, u, rfl, i1, b2, b3, i6, i7, i8, i9, b10, i11, i12, i13, i14, i15, b16, i17, i19, hW9, hGI9, (R5.mv hR5 i6 i7 hF9 (by decide) (by decide)), (ZP.mv hZP i6 i7 hF9 (by decide) (by decide)), hZS9, rfl, (ZGC.mv hZG i8 hF9 (by decide)), (TNN.cg hTN (fun j => by unfold sxLd; repeat' (first | rfl | exact vaR (by rfl) j | exact vaR (lKdn _ _ _ _ _ (by decide)) j | exact vaR ((va_up_ne _ _ (by decide)).trans (lKdn _ _ _ _ _ (by decide))) j | refine iteR ?_ ?_)) (fun _ => rfl))⟩ hP9 hQ9 (hD9.mono hFc) hap9 hS1
set_option maxHeartbeats 4000000 in
set_option maxRecDepth 100000 in
theorem cz_undo {p : Program} {l : Launch} {e : Env} {s : State} {m : MethodId} {below : List Frame} {meth : Method} {c : Code} {b Ln : Nat} {xs : Nat → Int32} (C0 : lw_At p s m meth c b Ln xs) {D : va_G} {cy : Nat → ClassId} {A : Nat → Prop} (hA : ∀ q, s.heap.size ≤ q → A q) (hN : NW s) (hK : va_K D vwCl (tysC cy) s) (hST : STAT A s) {za z2 z3 : Nat} {PK PT : Nat → Int32} {SX : Nat → Nat → Int} {SY : Nat → Nat → Nat → Int32} {WH : Int32} {CA : Nat → Int32} {Wa Wb : va_W} {H : Heap} {locs : List Loc} {cells slots : Nat} {ls : Array Slot} {lv : List (Nat × Value)} (k1 : Int32)  (hcs : cells + 0 ≤ 600000 ∧ slots + 0 ≤ 7302250) (hXS : ZS cy za z2 z3 PK PT SX SY WH CA Wa) (hP1 : va_P D vwCl Wa H) (hP2 : va_P D vwCl Wb H) (hD1 : va_D A Wa) (hap : APT Wa Wb) (hS : va_S A s.heap H locs) (hl : lv_has ls 4 lv) (kk : ∀ (r : Int32) (Wc : va_W) (H1 : Heap) (locs1 : List Loc), r = anUd z2 SX k1 → ZS cy za z2 z3 PK PT (sxUd z2 SX SY k1) (syUd z2 SX SY k1) (-1) CA Wc → va_P D vwCl Wc H1 → va_P D vwCl Wb H1 → va_D A Wc → APT Wc Wb → va_S A s.heap H1 locs1 → W p l e room_1 s m #[Value.ref b] below meth c H1 locs1 (cells + 0) (slots + 0) (lw_Z below #[Value.ref b] s) (F0 m 1037 ls [.int r])) : W p l e room_1 s m #[Value.ref b] below meth c H locs cells slots (lw_Z below #[Value.ref b] s) (F0 m 1034 ls [.int k1, .ref za]) := by
  obtain ⟨hx, hb, hr, hml, hown, hts, hX, hbl, hlocks, hgv⟩ := id C0
  have hg : ∀ w ∈ lw_good, w.before #[Value.ref b] s = true := fun w h => hts w (List.mem_filter.mp h).1
  have hown : s.vm.findClass RL = some m.cls := hown
  have hSVz := (ZS.svhi hXS).1
  obtain ⟨z0, z1, z4, z5, z6, z7, z8, z9, z10, z11, z12, z13, z14, z15, z16, z17, z18, z19, K, L, M, rfl, i1, b2, b3, i6, i7, i8, i9, b10, i11, i12, i13, i14, i15, b16, i17, i19, hW, hGI, hR5, hZP, hZS, hWH, hZG, hTN⟩ := hXS
  have hFc : ∀ q, va_A ([(za, (b13_0 z0 z1 (nI z2) (nI z3) z4 z5 z6 z7 z8 z9 (nI z10) z11 z12 z13 z14 z15 (nI z16) z17 z18 z19))] ++ va_pl L M) H.size q → A q := pg_free hD1 hS hA
  refine va_calli (va_runV (As := [.int k1]) (rest := []) ⟨hx, hb, hml, hown, hg⟩ (z_undo l D cy K L M H.size za z0 z1 z2 z3 z4 z5 z6 z7 z8 z9 z10 z11 z12 z13 z14 z15 z16 z17 z18 z19 k1 SX SY hW i1 b2 b3 i6 i7 i8 i9 b10 i11 i12 i13 i14 i15 b16 i17 i19 hGI hZS) (cwV 1 hg (gV wd_1151 wd_1152 wd_1153 wd_717 wd_1154) rfl rfl rfl (by decide +kernel) ⟨(Nat.le_of_ble_eq_true rfl), (Nat.le_of_ble_eq_true rfl)⟩) ⟨PG.blind, va_recv hK hP1 (ci := 13) (q0 := 0) rfl rfl, fun U hU hW9 => ⟨rfl, PG.at hP1 hK hD1 hN hU hW9⟩⟩ rfl rfl hl.1 rfl (lv_room (Nat.le_of_ble_eq_true rfl)) dL_law_1034 hcs) hS (fun q _ h => hFc q h) hFc (fun r u t H1 locs1 ht hvm hw hB hz1 hk1 hS1 => ?_)
  obtain ⟨hW9, hF9, hG9, hVP, hpost⟩ := hw
  obtain ⟨w4, hP9, hD9⟩ := hB
  rw [ht] at hP9
  obtain ⟨hQ9, hap9⟩ := hap.step hP2 hk1 hD9
  obtain ⟨hGI9, hZS9⟩ := hVP
  exact kk r _ H1 locs1 hpost ⟨0, z1, w4, (-1), z6, z7, z8, z9, z10, z11, z12, z13, z14, z15, z16, z17, z18, z19, K, L, u, rfl, i1, b2, b3, i6, i7, i8, i9, b10, i11, i12, i13, i14, i15, b16, i17, i19, hW9, hGI9, (R5.mv hR5 i6 i7 hF9 (by decide) (by decide)), (ZP.mv hZP i6 i7 hF9 (by decide) (by decide)), hZS9, rfl, (ZGC.mv hZG i8 hF9 (by decide)), (TNN.cg hTN (fun j => by unfold sxUd; repeat' (first | rfl | exact vaR (by rfl) j | exact vaR (lKdn _ _ _ _ _ (by decide)) j | exact vaR ((va_up_ne _ _ (by decide)).trans (lKdn _ _ _ _ _ (by decide))) j | refine iteR ?_ ?_)) (fun j => by unfold syUd; repeat' (first | rfl | exact vaR (by rfl) j | exact vaR (lKdn _ _ _ _ _ (by decide)) j | exact vaR ((va_up_ne _ _ (by decide)).trans (lKdn _ _ _ _ _ (by decide))) j | refine iteR ?_ ?_)))⟩ hP9 hQ9 (hD9.mono hFc) hap9 hS1
set_option maxHeartbeats 4000000 in
set_option maxRecDepth 100000 in
theorem cz_end {p : Program} {l : Launch} {e : Env} {s : State} {m : MethodId} {below : List Frame} {meth : Method} {c : Code} {b Ln : Nat} {xs : Nat → Int32} (C0 : lw_At p s m meth c b Ln xs) {D : va_G} {cy : Nat → ClassId} {A : Nat → Prop} (hA : ∀ q, s.heap.size ≤ q → A q) (hN : NW s) (hK : va_K D vwCl (tysC cy) s) (hST : STAT A s) {za z2 z3 : Nat} {PK PT : Nat → Int32} {SX : Nat → Nat → Int} {SY : Nat → Nat → Nat → Int32} {WH : Int32} {CA : Nat → Int32} {Wa Wb : va_W} {H : Heap} {locs : List Loc} {cells slots : Nat} {ls : Array Slot} {lv : List (Nat × Value)} (k1 : Int32) (k2 : Int32)  (hcs : cells + 0 ≤ 600000 ∧ slots + 0 ≤ 7302250) (hXS : ZS cy za z2 z3 PK PT SX SY WH CA Wa) (hP1 : va_P D vwCl Wa H) (hP2 : va_P D vwCl Wb H) (hD1 : va_D A Wa) (hap : APT Wa Wb) (hS : va_S A s.heap H locs) (hl : lv_has ls 4 lv) (kk : ∀ (r : Int32) (Wc : va_W) (H1 : Heap) (locs1 : List Loc), r = anEd z2 SX SY k1 k2 → ZS cy za z2 z3 PK PT (sxEd z2 SX SY k1 k2) (syEd z2 SX SY k1 k2) (-1) CA Wc → va_P D vwCl Wc H1 → va_P D vwCl Wb H1 → va_D A Wc → APT Wc Wb → va_S A s.heap H1 locs1 → W p l e room_1 s m #[Value.ref b] below meth c H1 locs1 (cells + 0) (slots + 0) (lw_Z below #[Value.ref b] s) (F0 m 1070 ls [.int r])) : W p l e room_1 s m #[Value.ref b] below meth c H locs cells slots (lw_Z below #[Value.ref b] s) (F0 m 1067 ls [.int k2, .int k1, .ref za]) := by
  obtain ⟨hx, hb, hr, hml, hown, hts, hX, hbl, hlocks, hgv⟩ := id C0
  have hg : ∀ w ∈ lw_good, w.before #[Value.ref b] s = true := fun w h => hts w (List.mem_filter.mp h).1
  have hown : s.vm.findClass RL = some m.cls := hown
  have hSVz := (ZS.svhi hXS).1
  obtain ⟨z0, z1, z4, z5, z6, z7, z8, z9, z10, z11, z12, z13, z14, z15, z16, z17, z18, z19, K, L, M, rfl, i1, b2, b3, i6, i7, i8, i9, b10, i11, i12, i13, i14, i15, b16, i17, i19, hW, hGI, hR5, hZP, hZS, hWH, hZG, hTN⟩ := hXS
  have hFc : ∀ q, va_A ([(za, (b13_0 z0 z1 (nI z2) (nI z3) z4 z5 z6 z7 z8 z9 (nI z10) z11 z12 z13 z14 z15 (nI z16) z17 z18 z19))] ++ va_pl L M) H.size q → A q := pg_free hD1 hS hA
  refine va_calli (va_runV (As := [.int k1, .int k2]) (rest := []) ⟨hx, hb, hml, hown, hg⟩ (z_end l D cy K L M H.size za z0 z1 z2 z3 z4 z5 z6 z7 z8 z9 z10 z11 z12 z13 z14 z15 z16 z17 z18 z19 k1 k2 SX SY hW i1 b2 b3 i6 i7 i8 i9 b10 i11 i12 i13 i14 i15 b16 i17 i19 hGI hZS) (cwV 2 hg (gV wd_1155 wd_1156 wd_1157 wd_717 wd_1158) rfl rfl rfl (by decide +kernel) ⟨(Nat.le_of_ble_eq_true rfl), (Nat.le_of_ble_eq_true rfl)⟩) ⟨PG.blind, va_recv hK hP1 (ci := 13) (q0 := 0) rfl rfl, fun U hU hW9 => ⟨rfl, PG.at hP1 hK hD1 hN hU hW9⟩⟩ rfl rfl hl.1 rfl (lv_room (Nat.le_of_ble_eq_true rfl)) dL_law_1067 hcs) hS (fun q _ h => hFc q h) hFc (fun r u t H1 locs1 ht hvm hw hB hz1 hk1 hS1 => ?_)
  obtain ⟨hW9, hF9, hG9, hVP, hpost⟩ := hw
  obtain ⟨w4, hP9, hD9⟩ := hB
  rw [ht] at hP9
  obtain ⟨hQ9, hap9⟩ := hap.step hP2 hk1 hD9
  obtain ⟨hGI9, hZS9⟩ := hVP
  exact kk r _ H1 locs1 hpost ⟨0, z1, w4, (-1), z6, z7, z8, z9, z10, z11, z12, z13, z14, z15, z16, z17, z18, z19, K, L, u, rfl, i1, b2, b3, i6, i7, i8, i9, b10, i11, i12, i13, i14, i15, b16, i17, i19, hW9, hGI9, (R5.mv hR5 i6 i7 hF9 (by decide) (by decide)), (ZP.mv hZP i6 i7 hF9 (by decide) (by decide)), hZS9, rfl, (ZGC.mv hZG i8 hF9 (by decide)), (TNN.cg hTN (fun j => by unfold sxEd; repeat' (first | rfl | exact vaR (by rfl) j | exact vaR (lKdn _ _ _ _ _ (by decide)) j | exact vaR ((va_up_ne _ _ (by decide)).trans (lKdn _ _ _ _ _ (by decide))) j | refine iteR ?_ ?_)) (fun j => by unfold syEd; repeat' (first | rfl | exact vaR (by rfl) j | exact vaR (lKdn _ _ _ _ _ (by decide)) j | exact vaR ((va_up_ne _ _ (by decide)).trans (lKdn _ _ _ _ _ (by decide))) j | refine iteR ?_ ?_)))⟩ hP9 hQ9 (hD9.mono hFc) hap9 hS1
set_option maxHeartbeats 4000000 in
set_option maxRecDepth 100000 in
theorem cz_close {p : Program} {l : Launch} {e : Env} {s : State} {m : MethodId} {below : List Frame} {meth : Method} {c : Code} {b Ln : Nat} {xs : Nat → Int32} (C0 : lw_At p s m meth c b Ln xs) {D : va_G} {cy : Nat → ClassId} {A : Nat → Prop} (hA : ∀ q, s.heap.size ≤ q → A q) (hN : NW s) (hK : va_K D vwCl (tysC cy) s) (hST : STAT A s) {za z2 z3 : Nat} {PK PT : Nat → Int32} {SX : Nat → Nat → Int} {SY : Nat → Nat → Nat → Int32} {WH : Int32} {CA : Nat → Int32} {Wa Wb : va_W} {H : Heap} {locs : List Loc} {cells slots : Nat} {ls : Array Slot} {lv : List (Nat × Value)} (k1 : Int32)  (hcs : cells + 0 ≤ 600000 ∧ slots + 0 ≤ 7302250) (hXS : ZS cy za z2 z3 PK PT SX SY WH CA Wa) (hP1 : va_P D vwCl Wa H) (hP2 : va_P D vwCl Wb H) (hD1 : va_D A Wa) (hap : APT Wa Wb) (hS : va_S A s.heap H locs) (hl : lv_has ls 4 lv) (kk : ∀ (r : Int32) (Wc : va_W) (H1 : Heap) (locs1 : List Loc), r = anCl z2 PK PT SX SY k1 → (∃ v5 : Int32, WHR z2 PK PT SX SY k1 v5 ∧ (∃ (X9 : Nat → Int) (Y9 : Nat → Nat → Int32), (okCl z2 PK PT SX SY k1 → CLF (enD (SX k1.toNatClampNeg) (SY k1.toNatClampNeg)) (SX k1.toNatClampNeg) (SY k1.toNatClampNeg) X9 Y9) ∧ ZS cy za z2 z3 PK PT (sxCl z2 PK PT SX SY k1 X9) (syCl z2 PK PT SX SY k1 Y9) v5 CA Wc)) → va_P D vwCl Wc H1 → va_P D vwCl Wb H1 → va_D A Wc → APT Wc Wb → va_S A s.heap H1 locs1 → W p l e room_1 s m #[Value.ref b] below meth c H1 locs1 (cells + 0) (slots + 0) (lw_Z below #[Value.ref b] s) (F0 m 1093 ls [.int r])) : W p l e room_1 s m #[Value.ref b] below meth c H locs cells slots (lw_Z below #[Value.ref b] s) (F0 m 1090 ls [.int k1, .ref za]) := by
  obtain ⟨hx, hb, hr, hml, hown, hts, hX, hbl, hlocks, hgv⟩ := id C0
  have hg : ∀ w ∈ lw_good, w.before #[Value.ref b] s = true := fun w h => hts w (List.mem_filter.mp h).1
  have hown : s.vm.findClass RL = some m.cls := hown
  have hSVz := (ZS.svhi hXS).1
  obtain ⟨z0, z1, z4, z5, z6, z7, z8, z9, z10, z11, z12, z13, z14, z15, z16, z17, z18, z19, K, L, M, rfl, i1, b2, b3, i6, i7, i8, i9, b10, i11, i12, i13, i14, i15, b16, i17, i19, hW, hGI, hR5, hZP, hZS, hWH, hZG, hTN⟩ := hXS
  have hFc : ∀ q, va_A ([(za, (b13_0 z0 z1 (nI z2) (nI z3) z4 z5 z6 z7 z8 z9 (nI z10) z11 z12 z13 z14 z15 (nI z16) z17 z18 z19))] ++ va_pl L M) H.size q → A q := pg_free hD1 hS hA
  refine va_calli (va_runV (As := [.int k1]) (rest := []) ⟨hx, hb, hml, hown, hg⟩ (z_close l D cy K L M H.size za z0 z1 z2 z3 z4 z5 z6 z7 z8 z9 z10 z11 z12 z13 z14 z15 z16 z17 z18 z19 k1 SX SY PK PT hW i1 b2 b3 i6 i7 i8 i9 b10 i11 i12 i13 i14 i15 b16 i17 i19 hGI hZS hR5 hZP) (cwV 1 hg (gV wd_1159 wd_1160 wd_1161 wd_717 wd_1162) rfl rfl rfl (by decide +kernel) ⟨(Nat.le_of_ble_eq_true rfl), (Nat.le_of_ble_eq_true rfl)⟩) ⟨PG.blind, va_recv hK hP1 (ci := 13) (q0 := 0) rfl rfl, fun U hU hW9 => ⟨rfl, PG.at hP1 hK hD1 hN hU hW9⟩⟩ rfl rfl hl.1 rfl (lv_room (Nat.le_of_ble_eq_true rfl)) dL_law_1090 hcs) hS (fun q _ h => hFc q h) hFc (fun r u t H1 locs1 ht hvm hw hB hz1 hk1 hS1 => ?_)
  obtain ⟨hW9, hF9, hG9, hVP, hpost⟩ := hw
  obtain ⟨w4, w5, w16, hg0, hg1, hP9, hD9⟩ := hB
  rw [ht] at hP9
  obtain ⟨hQ9, hap9⟩ := hap.step hP2 hk1 hD9
  obtain ⟨hGI9, X9, Y9, hc9, hZS9⟩ := hVP
  exact kk r _ H1 locs1 hpost ⟨w5, hg1, ⟨X9, Y9, hc9, ⟨0, z1, w4, w5, z6, z7, z8, z9, z10, z11, z12, z13, z14, z15, w16, z17, z18, z19, K, L, u, rfl, i1, b2, b3, i6, i7, i8, i9, b10, i11, i12, i13, i14, i15, hg0, i17, i19, hW9, hGI9, (R5.mv hR5 i6 i7 hF9 (by decide) (by decide)), (ZP.mv hZP i6 i7 hF9 (by decide) (by decide)), hZS9, rfl, (ZGC.mv hZG i8 hF9 (by decide)), (TNN.close hTN hc9)⟩⟩⟩ hP9 hQ9 (hD9.mono hFc) hap9 hS1
set_option maxHeartbeats 4000000 in
set_option maxRecDepth 100000 in
theorem cz_mend {p : Program} {l : Launch} {e : Env} {s : State} {m : MethodId} {below : List Frame} {meth : Method} {c : Code} {b Ln : Nat} {xs : Nat → Int32} (C0 : lw_At p s m meth c b Ln xs) {D : va_G} {cy : Nat → ClassId} {A : Nat → Prop} (hA : ∀ q, s.heap.size ≤ q → A q) (hN : NW s) (hK : va_K D vwCl (tysC cy) s) (hST : STAT A s) {za z2 z3 : Nat} {PK PT : Nat → Int32} {SX : Nat → Nat → Int} {SY : Nat → Nat → Nat → Int32} {WH : Int32} {CA : Nat → Int32} {Wa Wb : va_W} {H : Heap} {locs : List Loc} {cells slots : Nat} {ls : Array Slot} {lv : List (Nat × Value)} (k1 : Int32) (k2 : Int32) (k3 : Int32)  (hcs : cells + 0 ≤ 600000 ∧ slots + 0 ≤ 7302250) (hXS : ZS cy za z2 z3 PK PT SX SY WH CA Wa) (hP1 : va_P D vwCl Wa H) (hP2 : va_P D vwCl Wb H) (hD1 : va_D A Wa) (hap : APT Wa Wb) (hS : va_S A s.heap H locs) (hl : lv_has ls 4 lv) (kk : ∀ (r : Int32) (Wc : va_W) (H1 : Heap) (locs1 : List Loc), r = anMe z2 SX k1 k2 k3 → ZS cy za z2 z3 PK PT (sxMe z2 SX k1 k2 k3) (syMe z2 SX SY k1 k2 k3) (-1) CA Wc → va_P D vwCl Wc H1 → va_P D vwCl Wb H1 → va_D A Wc → APT Wc Wb → va_S A s.heap H1 locs1 → W p l e room_1 s m #[Value.ref b] below meth c H1 locs1 (cells + 0) (slots + 0) (lw_Z below #[Value.ref b] s) (F0 m 1136 ls [.int r])) : W p l e room_1 s m #[Value.ref b] below meth c H locs cells slots (lw_Z below #[Value.ref b] s) (F0 m 1133 ls [.int k3, .int k2, .int k1, .ref za]) := by
  obtain ⟨hx, hb, hr, hml, hown, hts, hX, hbl, hlocks, hgv⟩ := id C0
  have hg : ∀ w ∈ lw_good, w.before #[Value.ref b] s = true := fun w h => hts w (List.mem_filter.mp h).1
  have hown : s.vm.findClass RL = some m.cls := hown
  have hSVz := (ZS.svhi hXS).1
  obtain ⟨z0, z1, z4, z5, z6, z7, z8, z9, z10, z11, z12, z13, z14, z15, z16, z17, z18, z19, K, L, M, rfl, i1, b2, b3, i6, i7, i8, i9, b10, i11, i12, i13, i14, i15, b16, i17, i19, hW, hGI, hR5, hZP, hZS, hWH, hZG, hTN⟩ := hXS
  have hFc : ∀ q, va_A ([(za, (b13_0 z0 z1 (nI z2) (nI z3) z4 z5 z6 z7 z8 z9 (nI z10) z11 z12 z13 z14 z15 (nI z16) z17 z18 z19))] ++ va_pl L M) H.size q → A q := pg_free hD1 hS hA
  refine va_calli (va_runV (As := [.int k1, .int k2, .int k3]) (rest := []) ⟨hx, hb, hml, hown, hg⟩ (z_mend l D cy K L M H.size za z0 z1 z2 z3 z4 z5 z6 z7 z8 z9 z10 z11 z12 z13 z14 z15 z16 z17 z18 z19 k1 k2 k3 SX SY hW i1 b2 b3 i6 i7 i8 i9 b10 i11 i12 i13 i14 i15 b16 i17 i19 hGI hZS) (cwV 3 hg (gV wd_1163 wd_1164 wd_1165 wd_717 wd_1166) rfl rfl rfl (by decide +kernel) ⟨(Nat.le_of_ble_eq_true rfl), (Nat.le_of_ble_eq_true rfl)⟩) ⟨PG.blind, va_recv hK hP1 (ci := 13) (q0 := 0) rfl rfl, fun U hU hW9 => ⟨rfl, PG.at hP1 hK hD1 hN hU hW9⟩⟩ rfl rfl hl.1 rfl (lv_room (Nat.le_of_ble_eq_true rfl)) dL_law_1133 hcs) hS (fun q _ h => hFc q h) hFc (fun r u t H1 locs1 ht hvm hw hB hz1 hk1 hS1 => ?_)
  obtain ⟨hW9, hF9, hG9, hVP, hpost⟩ := hw
  obtain ⟨w4, hP9, hD9⟩ := hB
  rw [ht] at hP9
  obtain ⟨hQ9, hap9⟩ := hap.step hP2 hk1 hD9
  obtain ⟨hGI9, hZS9⟩ := hVP
  exact kk r _ H1 locs1 hpost ⟨0, z1, w4, (-1), z6, z7, z8, z9, z10, z11, z12, z13, z14, z15, z16, z17, z18, z19, K, L, u, rfl, i1, b2, b3, i6, i7, i8, i9, b10, i11, i12, i13, i14, i15, b16, i17, i19, hW9, hGI9, (R5.mv hR5 i6 i7 hF9 (by decide) (by decide)), (ZP.mv hZP i6 i7 hF9 (by decide) (by decide)), hZS9, rfl, (ZGC.mv hZG i8 hF9 (by decide)), (TNN.cg hTN (fun j => by unfold sxMe; repeat' (first | rfl | exact vaR (by rfl) j | exact vaR (lKdn _ _ _ _ _ (by decide)) j | exact vaR ((va_up_ne _ _ (by decide)).trans (lKdn _ _ _ _ _ (by decide))) j | refine iteR ?_ ?_)) (fun j => by unfold syMe; repeat' (first | rfl | exact vaR (by rfl) j | exact vaR (lKdn _ _ _ _ _ (by decide)) j | exact vaR ((va_up_ne _ _ (by decide)).trans (lKdn _ _ _ _ _ (by decide))) j | refine iteR ?_ ?_)))⟩ hP9 hQ9 (hD9.mono hFc) hap9 hS1
set_option maxHeartbeats 4000000 in
set_option maxRecDepth 100000 in
theorem cz_hidden {p : Program} {l : Launch} {e : Env} {s : State} {m : MethodId} {below : List Frame} {meth : Method} {c : Code} {b Ln : Nat} {xs : Nat → Int32} (C0 : lw_At p s m meth c b Ln xs) {D : va_G} {cy : Nat → ClassId} {A : Nat → Prop} (hA : ∀ q, s.heap.size ≤ q → A q) (hN : NW s) (hK : va_K D vwCl (tysC cy) s) (hST : STAT A s) {za z2 z3 : Nat} {PK PT : Nat → Int32} {SX : Nat → Nat → Int} {SY : Nat → Nat → Nat → Int32} {WH : Int32} {CA : Nat → Int32} {Wa Wb : va_W} {H : Heap} {locs : List Loc} {cells slots : Nat} {ls : Array Slot} {lv : List (Nat × Value)} (k1 : Int32) (k2 : Int32) (k3 : Int32)  (hcs : cells + 0 ≤ 600000 ∧ slots + 0 ≤ 7302250) (hXS : ZS cy za z2 z3 PK PT SX SY WH CA Wa) (hP1 : va_P D vwCl Wa H) (hP2 : va_P D vwCl Wb H) (hD1 : va_D A Wa) (hap : APT Wa Wb) (hS : va_S A s.heap H locs) (hl : lv_has ls 4 lv) (kk : ∀ (r : Int32) (Wc : va_W) (H1 : Heap) (locs1 : List Loc), r = anHi z2 SX SY k1 k2 k3 → ZS cy za z2 z3 PK PT SX SY (-1) CA Wc → va_P D vwCl Wc H1 → va_P D vwCl Wb H1 → va_D A Wc → APT Wc Wb → va_S A s.heap H1 locs1 → W p l e room_1 s m #[Value.ref b] below meth c H1 locs1 (cells + 0) (slots + 0) (lw_Z below #[Value.ref b] s) (F0 m 1179 ls [.int r])) : W p l e room_1 s m #[Value.ref b] below meth c H locs cells slots (lw_Z below #[Value.ref b] s) (F0 m 1176 ls [.int k3, .int k2, .int k1, .ref za]) := by
  obtain ⟨hx, hb, hr, hml, hown, hts, hX, hbl, hlocks, hgv⟩ := id C0
  have hg : ∀ w ∈ lw_good, w.before #[Value.ref b] s = true := fun w h => hts w (List.mem_filter.mp h).1
  have hown : s.vm.findClass RL = some m.cls := hown
  have hSVz := (ZS.svhi hXS).1
  obtain ⟨z0, z1, z4, z5, z6, z7, z8, z9, z10, z11, z12, z13, z14, z15, z16, z17, z18, z19, K, L, M, rfl, i1, b2, b3, i6, i7, i8, i9, b10, i11, i12, i13, i14, i15, b16, i17, i19, hW, hGI, hR5, hZP, hZS, hWH, hZG, hTN⟩ := hXS
  have hFc : ∀ q, va_A ([(za, (b13_0 z0 z1 (nI z2) (nI z3) z4 z5 z6 z7 z8 z9 (nI z10) z11 z12 z13 z14 z15 (nI z16) z17 z18 z19))] ++ va_pl L M) H.size q → A q := pg_free hD1 hS hA
  refine va_calli (va_runV (As := [.int k1, .int k2, .int k3]) (rest := []) ⟨hx, hb, hml, hown, hg⟩ (z_hidden l D cy K L M H.size za z0 z1 z2 z3 z4 z5 z6 z7 z8 z9 z10 z11 z12 z13 z14 z15 z16 z17 z18 z19 k1 k2 k3 SX SY hW i1 b2 b3 i6 i7 i8 i9 b10 i11 i12 i13 i14 i15 b16 i17 i19 hGI hZS hTN) (cwV 3 hg (gV wd_1167 wd_1168 wd_1169 wd_717 wd_1170) rfl rfl rfl (by decide +kernel) ⟨(Nat.le_of_ble_eq_true rfl), (Nat.le_of_ble_eq_true rfl)⟩) ⟨PG.blind, va_recv hK hP1 (ci := 13) (q0 := 0) rfl rfl, fun U hU hW9 => ⟨rfl, PG.at hP1 hK hD1 hN hU hW9⟩⟩ rfl rfl hl.1 rfl (lv_room (Nat.le_of_ble_eq_true rfl)) dL_law_1176 hcs) hS (fun q _ h => hFc q h) hFc (fun r u t H1 locs1 ht hvm hw hB hz1 hk1 hS1 => ?_)
  obtain ⟨hW9, hF9, hG9, hVP, hpost⟩ := hw
  obtain ⟨w4, w16, hg0, hP9, hD9⟩ := hB
  rw [ht] at hP9
  obtain ⟨hQ9, hap9⟩ := hap.step hP2 hk1 hD9
  exact kk r _ H1 locs1 hpost ⟨0, z1, w4, (-1), z6, z7, z8, z9, z10, z11, z12, z13, z14, z15, w16, z17, z18, z19, K, L, u, rfl, i1, b2, b3, i6, i7, i8, i9, b10, i11, i12, i13, i14, i15, hg0, i17, i19, hW9, hVP, (R5.mv hR5 i6 i7 hF9 (by decide) (by decide)), (ZP.mv hZP i6 i7 hF9 (by decide) (by decide)), (ZSx.mv hW hW9 i1 b2 hZS hF9 hG9 (by decide) (by decide) (by decide)), rfl, (ZGC.mv hZG i8 hF9 (by decide)), hTN⟩ hP9 hQ9 (hD9.mono hFc) hap9 hS1
set_option maxHeartbeats 4000000 in
set_option maxRecDepth 100000 in
theorem cz_bear {p : Program} {l : Launch} {e : Env} {s : State} {m : MethodId} {below : List Frame} {meth : Method} {c : Code} {b Ln : Nat} {xs : Nat → Int32} (C0 : lw_At p s m meth c b Ln xs) {D : va_G} {cy : Nat → ClassId} {A : Nat → Prop} (hA : ∀ q, s.heap.size ≤ q → A q) (hN : NW s) (hK : va_K D vwCl (tysC cy) s) (hST : STAT A s) {za z2 z3 : Nat} {PK PT : Nat → Int32} {SX : Nat → Nat → Int} {SY : Nat → Nat → Nat → Int32} {WH : Int32} {CA : Nat → Int32} {Wa Wb : va_W} {H : Heap} {locs : List Loc} {cells slots : Nat} {ls : Array Slot} {lv : List (Nat × Value)} (k1 : Int32) (k2 : Int32) (k3 : Int32)  (hcs : cells + 0 ≤ 600000 ∧ slots + 0 ≤ 7302250) (hXS : ZS cy za z2 z3 PK PT SX SY WH CA Wa) (hP1 : va_P D vwCl Wa H) (hP2 : va_P D vwCl Wb H) (hD1 : va_D A Wa) (hap : APT Wa Wb) (hS : va_S A s.heap H locs) (hl : lv_has ls 4 lv) (kk : ∀ (r : Int32) (Wc : va_W) (H1 : Heap) (locs1 : List Loc), ZS cy za z2 z3 PK PT SX SY (-1) CA Wc → va_P D vwCl Wc H1 → va_P D vwCl Wb H1 → va_D A Wc → APT Wc Wb → va_S A s.heap H1 locs1 → W p l e room_1 s m #[Value.ref b] below meth c H1 locs1 (cells + 0) (slots + 0) (lw_Z below #[Value.ref b] s) (F0 m 1222 ls [.int r])) : W p l e room_1 s m #[Value.ref b] below meth c H locs cells slots (lw_Z below #[Value.ref b] s) (F0 m 1219 ls [.int k3, .int k2, .int k1, .ref za]) := by
  obtain ⟨hx, hb, hr, hml, hown, hts, hX, hbl, hlocks, hgv⟩ := id C0
  have hg : ∀ w ∈ lw_good, w.before #[Value.ref b] s = true := fun w h => hts w (List.mem_filter.mp h).1
  have hown : s.vm.findClass RL = some m.cls := hown
  have hSVz := (ZS.svhi hXS).1
  obtain ⟨z0, z1, z4, z5, z6, z7, z8, z9, z10, z11, z12, z13, z14, z15, z16, z17, z18, z19, K, L, M, rfl, i1, b2, b3, i6, i7, i8, i9, b10, i11, i12, i13, i14, i15, b16, i17, i19, hW, hGI, hR5, hZP, hZS, hWH, hZG, hTN⟩ := hXS
  have hFc : ∀ q, va_A ([(za, (b13_0 z0 z1 (nI z2) (nI z3) z4 z5 z6 z7 z8 z9 (nI z10) z11 z12 z13 z14 z15 (nI z16) z17 z18 z19))] ++ va_pl L M) H.size q → A q := pg_free hD1 hS hA
  refine va_calli (va_runV (As := [.int k1, .int k2, .int k3]) (rest := []) ⟨hx, hb, hml, hown, hg⟩ (g_X13_bear l D cy K L M H.size za z0 z1 z2 z3 z4 z5 z6 z7 z8 z9 z10 z11 z12 z13 z14 z15 z16 z17 z18 z19 k1 k2 k3 hW i1 b2 b3 i6 i7 i8 i9 b10 i11 i12 i13 i14 i15 b16 i17 i19 hGI) (cwV 3 hg (gV wd_1171 wd_1172 wd_1173 wd_717 wd_1174) rfl rfl rfl (by decide +kernel) ⟨(Nat.le_of_ble_eq_true rfl), (Nat.le_of_ble_eq_true rfl)⟩) ⟨PG.blind, va_recv hK hP1 (ci := 13) (q0 := 0) rfl rfl, fun U hU hW9 => ⟨rfl, PG.at hP1 hK hD1 hN hU hW9⟩⟩ rfl rfl hl.1 rfl (lv_room (Nat.le_of_ble_eq_true rfl)) dL_law_1219 hcs) hS (fun q _ h => hFc q h) hFc (fun r u t H1 locs1 ht hvm hw hB hz1 hk1 hS1 => ?_)
  obtain ⟨hW9, hF9, hVP, hpost⟩ := hw
  obtain ⟨w4, w16, w18, hg0, hP9, hD9⟩ := hB
  rw [ht] at hP9
  obtain ⟨hQ9, hap9⟩ := hap.step hP2 hk1 hD9
  exact kk r _ H1 locs1 ⟨0, z1, w4, (-1), z6, z7, z8, z9, z10, z11, z12, z13, z14, z15, w16, z17, w18, z19, K, L, u, rfl, i1, b2, b3, i6, i7, i8, i9, b10, i11, i12, i13, i14, i15, hg0, i17, i19, hW9, hVP, (R5.mv hR5 i6 i7 hF9 (by decide) (by decide)), (ZP.mv hZP i6 i7 hF9 (by decide) (by decide)), (ZSx.mv hW hW9 i1 b2 hZS hF9 ((fG.rf (js := [])).frR hF9 (by decide)) (by decide) (by decide) (by decide)), rfl, (ZGC.mv hZG i8 hF9 (by decide)), hTN⟩ hP9 hQ9 (hD9.mono hFc) hap9 hS1
set_option maxHeartbeats 4000000 in
set_option maxRecDepth 100000 in
theorem cz_borne {p : Program} {l : Launch} {e : Env} {s : State} {m : MethodId} {below : List Frame} {meth : Method} {c : Code} {b Ln : Nat} {xs : Nat → Int32} (C0 : lw_At p s m meth c b Ln xs) {D : va_G} {cy : Nat → ClassId} {A : Nat → Prop} (hA : ∀ q, s.heap.size ≤ q → A q) (hN : NW s) (hK : va_K D vwCl (tysC cy) s) (hST : STAT A s) {za z2 z3 : Nat} {PK PT : Nat → Int32} {SX : Nat → Nat → Int} {SY : Nat → Nat → Nat → Int32} {WH : Int32} {CA : Nat → Int32} {Wa Wb : va_W} {H : Heap} {locs : List Loc} {cells slots : Nat} {ls : Array Slot} {lv : List (Nat × Value)} (k1 : Int32)  (hcs : cells + 0 ≤ 600000 ∧ slots + 0 ≤ 7302250) (hXS : ZS cy za z2 z3 PK PT SX SY WH CA Wa) (hP1 : va_P D vwCl Wa H) (hP2 : va_P D vwCl Wb H) (hD1 : va_D A Wa) (hap : APT Wa Wb) (hS : va_S A s.heap H locs) (hl : lv_has ls 4 lv) (kk : ∀ (r : Int32) (Wc : va_W) (H1 : Heap) (locs1 : List Loc), ZS cy za z2 z3 PK PT SX SY WH CA Wc → va_P D vwCl Wc H1 → va_P D vwCl Wb H1 → va_D A Wc → APT Wc Wb → va_S A s.heap H1 locs1 → W p l e room_1 s m #[Value.ref b] below meth c H1 locs1 (cells + 0) (slots + 0) (lw_Z below #[Value.ref b] s) (F0 m 1245 ls [.int r])) : W p l e room_1 s m #[Value.ref b] below meth c H locs cells slots (lw_Z below #[Value.ref b] s) (F0 m 1242 ls [.int k1, .ref za]) := by
  obtain ⟨hx, hb, hr, hml, hown, hts, hX, hbl, hlocks, hgv⟩ := id C0
  have hg : ∀ w ∈ lw_good, w.before #[Value.ref b] s = true := fun w h => hts w (List.mem_filter.mp h).1
  have hown : s.vm.findClass RL = some m.cls := hown
  have hSVz := (ZS.svhi hXS).1
  obtain ⟨z0, z1, z4, z5, z6, z7, z8, z9, z10, z11, z12, z13, z14, z15, z16, z17, z18, z19, K, L, M, rfl, i1, b2, b3, i6, i7, i8, i9, b10, i11, i12, i13, i14, i15, b16, i17, i19, hW, hGI, hR5, hZP, hZS, hWH, hZG, hTN⟩ := hXS
  have hFc : ∀ q, va_A ([(za, (b13_0 z0 z1 (nI z2) (nI z3) z4 z5 z6 z7 z8 z9 (nI z10) z11 z12 z13 z14 z15 (nI z16) z17 z18 z19))] ++ va_pl L M) H.size q → A q := pg_free hD1 hS hA
  refine va_calli (va_runV (As := [.int k1]) (rest := []) ⟨hx, hb, hml, hown, hg⟩ (r_X13_borne l D cy K L M H.size za z0 z1 z2 z3 z4 z5 z6 z7 z8 z9 z10 z11 z12 z13 z14 z15 z16 z17 z18 z19 k1 hW i1 b2 b3 i6 i7 i8 i9 b10 i11 i12 i13 i14 i15 b16 i17 i19) (cwV 1 hg (gV wd_1175 wd_1176 wd_1177 wd_717 wd_1178) rfl rfl rfl (by decide +kernel) ⟨(Nat.le_of_ble_eq_true rfl), (Nat.le_of_ble_eq_true rfl)⟩) ⟨PG.blind, va_recv hK hP1 (ci := 13) (q0 := 0) rfl rfl, fun U hU hW9 => ⟨rfl, PG.at hP1 hK hD1 hN hU hW9⟩⟩ rfl rfl hl.1 rfl (lv_room (Nat.le_of_ble_eq_true rfl)) dL_law_1242 hcs) hS (fun q _ h => hFc q h) hFc (fun r u t H1 locs1 ht hvm hw hB hz1 hk1 hS1 => ?_)
  have hpost := hw
  have hW9 := hW
  obtain ⟨hP9, hD9⟩ := hB
  rw [ht] at hP9
  obtain ⟨hQ9, hap9⟩ := hap.step hP2 hk1 hD9
  exact kk r _ H1 locs1 ⟨0, z1, z4, z5, z6, z7, z8, z9, z10, z11, z12, z13, z14, z15, z16, z17, z18, z19, K, L, M, rfl, i1, b2, b3, i6, i7, i8, i9, b10, i11, i12, i13, i14, i15, b16, i17, i19, hW9, hGI, hR5, hZP, hZS, hWH, hZG, hTN⟩ hP9 hQ9 (hD9.mono hFc) hap9 hS1
set_option maxHeartbeats 4000000 in
set_option maxRecDepth 100000 in
theorem cz_account {p : Program} {l : Launch} {e : Env} {s : State} {m : MethodId} {below : List Frame} {meth : Method} {c : Code} {b Ln : Nat} {xs : Nat → Int32} (C0 : lw_At p s m meth c b Ln xs) {D : va_G} {cy : Nat → ClassId} {A : Nat → Prop} (hA : ∀ q, s.heap.size ≤ q → A q) (hN : NW s) (hK : va_K D vwCl (tysC cy) s) (hST : STAT A s) {za z2 z3 : Nat} {PK PT : Nat → Int32} {SX : Nat → Nat → Int} {SY : Nat → Nat → Nat → Int32} {WH : Int32} {CA : Nat → Int32} {Wa Wb : va_W} {H : Heap} {locs : List Loc} {cells slots : Nat} {ls : Array Slot} {lv : List (Nat × Value)} (k1 : Int32) (k2 : Int32) (k3 : Int32)  (hcs : cells + 0 ≤ 600000 ∧ slots + 0 ≤ 7302250) (hXS : ZS cy za z2 z3 PK PT SX SY WH CA Wa) (hP1 : va_P D vwCl Wa H) (hP2 : va_P D vwCl Wb H) (hD1 : va_D A Wa) (hap : APT Wa Wb) (hS : va_S A s.heap H locs) (hl : lv_has ls 4 lv) (kk : ∀ (r : Int64) (Wc : va_W) (H1 : Heap) (locs1 : List Loc), ZS cy za z2 z3 PK PT SX SY WH CA Wc → va_P D vwCl Wc H1 → va_P D vwCl Wb H1 → va_D A Wc → APT Wc Wb → va_S A s.heap H1 locs1 → W p l e room_1 s m #[Value.ref b] below meth c H1 locs1 (cells + 0) (slots + 0) (lw_Z below #[Value.ref b] s) (F0 m 1288 ls [.long r])) : W p l e room_1 s m #[Value.ref b] below meth c H locs cells slots (lw_Z below #[Value.ref b] s) (F0 m 1285 ls [.int k3, .int k2, .int k1, .ref za]) := by
  obtain ⟨hx, hb, hr, hml, hown, hts, hX, hbl, hlocks, hgv⟩ := id C0
  have hg : ∀ w ∈ lw_good, w.before #[Value.ref b] s = true := fun w h => hts w (List.mem_filter.mp h).1
  have hown : s.vm.findClass RL = some m.cls := hown
  have hSVz := (ZS.svhi hXS).1
  obtain ⟨z0, z1, z4, z5, z6, z7, z8, z9, z10, z11, z12, z13, z14, z15, z16, z17, z18, z19, K, L, M, rfl, i1, b2, b3, i6, i7, i8, i9, b10, i11, i12, i13, i14, i15, b16, i17, i19, hW, hGI, hR5, hZP, hZS, hWH, hZG, hTN⟩ := hXS
  have hFc : ∀ q, va_A ([(za, (b13_0 z0 z1 (nI z2) (nI z3) z4 z5 z6 z7 z8 z9 (nI z10) z11 z12 z13 z14 z15 (nI z16) z17 z18 z19))] ++ va_pl L M) H.size q → A q := pg_free hD1 hS hA
  refine va_calll (va_runV (As := [.int k1, .int k2, .int k3]) (rest := []) ⟨hx, hb, hml, hown, hg⟩ (r_X13_account l D cy K L M H.size za z0 z1 z2 z3 z4 z5 z6 z7 z8 z9 z10 z11 z12 z13 z14 z15 z16 z17 z18 z19 k1 k2 k3 hW i1 b2 b3 i6 i7 i8 i9 b10 i11 i12 i13 i14 i15 b16 i17 i19) (cwV 3 hg (gV wd_1179 wd_1180 wd_1181 wd_717 wd_1182) rfl rfl rfl (by decide +kernel) ⟨(Nat.le_of_ble_eq_true rfl), (Nat.le_of_ble_eq_true rfl)⟩) ⟨PG.blind, va_recv hK hP1 (ci := 13) (q0 := 0) rfl rfl, fun U hU hW9 => ⟨rfl, PG.at hP1 hK hD1 hN hU hW9⟩⟩ rfl rfl hl.1 rfl (lv_room (Nat.le_of_ble_eq_true rfl)) dL_law_1285 hcs) hS (fun q _ h => hFc q h) hFc (fun r u t H1 locs1 ht hvm hw hB hz1 hk1 hS1 => ?_)
  have hpost := hw
  have hW9 := hW
  obtain ⟨hP9, hD9⟩ := hB
  rw [ht] at hP9
  obtain ⟨hQ9, hap9⟩ := hap.step hP2 hk1 hD9
  exact kk r _ H1 locs1 ⟨0, z1, z4, z5, z6, z7, z8, z9, z10, z11, z12, z13, z14, z15, z16, z17, z18, z19, K, L, M, rfl, i1, b2, b3, i6, i7, i8, i9, b10, i11, i12, i13, i14, i15, b16, i17, i19, hW9, hGI, hR5, hZP, hZS, hWH, hZG, hTN⟩ hP9 hQ9 (hD9.mono hFc) hap9 hS1
set_option maxHeartbeats 4000000 in
set_option maxRecDepth 100000 in
theorem cz_tenure {p : Program} {l : Launch} {e : Env} {s : State} {m : MethodId} {below : List Frame} {meth : Method} {c : Code} {b Ln : Nat} {xs : Nat → Int32} (C0 : lw_At p s m meth c b Ln xs) {D : va_G} {cy : Nat → ClassId} {A : Nat → Prop} (hA : ∀ q, s.heap.size ≤ q → A q) (hN : NW s) (hK : va_K D vwCl (tysC cy) s) (hST : STAT A s) {za z2 z3 : Nat} {PK PT : Nat → Int32} {SX : Nat → Nat → Int} {SY : Nat → Nat → Nat → Int32} {WH : Int32} {CA : Nat → Int32} {Wa Wb : va_W} {H : Heap} {locs : List Loc} {cells slots : Nat} {ls : Array Slot} {lv : List (Nat × Value)} (k1 : Int32) (k2 : Int32) (k3 : Int32)  (hcs : cells + 0 ≤ 600000 ∧ slots + 0 ≤ 7302250) (hXS : ZS cy za z2 z3 PK PT SX SY WH CA Wa) (hP1 : va_P D vwCl Wa H) (hP2 : va_P D vwCl Wb H) (hD1 : va_D A Wa) (hap : APT Wa Wb) (hS : va_S A s.heap H locs) (hl : lv_has ls 4 lv) (kk : ∀ (r : Int32) (Wc : va_W) (H1 : Heap) (locs1 : List Loc), r = anTn z2 PK SX SY k1 k2 k3 → ZS cy za z2 z3 PK PT SX SY WH CA Wc → va_P D vwCl Wc H1 → va_P D vwCl Wb H1 → va_D A Wc → APT Wc Wb → va_S A s.heap H1 locs1 → W p l e room_1 s m #[Value.ref b] below meth c H1 locs1 (cells + 0) (slots + 0) (lw_Z below #[Value.ref b] s) (F0 m 1331 ls [.int r])) : W p l e room_1 s m #[Value.ref b] below meth c H locs cells slots (lw_Z below #[Value.ref b] s) (F0 m 1328 ls [.int k3, .int k2, .int k1, .ref za]) := by
  obtain ⟨hx, hb, hr, hml, hown, hts, hX, hbl, hlocks, hgv⟩ := id C0
  have hg : ∀ w ∈ lw_good, w.before #[Value.ref b] s = true := fun w h => hts w (List.mem_filter.mp h).1
  have hown : s.vm.findClass RL = some m.cls := hown
  have hSVz := (ZS.svhi hXS).1
  obtain ⟨z0, z1, z4, z5, z6, z7, z8, z9, z10, z11, z12, z13, z14, z15, z16, z17, z18, z19, K, L, M, rfl, i1, b2, b3, i6, i7, i8, i9, b10, i11, i12, i13, i14, i15, b16, i17, i19, hW, hGI, hR5, hZP, hZS, hWH, hZG, hTN⟩ := hXS
  have hFc : ∀ q, va_A ([(za, (b13_0 z0 z1 (nI z2) (nI z3) z4 z5 z6 z7 z8 z9 (nI z10) z11 z12 z13 z14 z15 (nI z16) z17 z18 z19))] ++ va_pl L M) H.size q → A q := pg_free hD1 hS hA
  refine va_calli (va_runV (As := [.int k1, .int k2, .int k3]) (rest := []) ⟨hx, hb, hml, hown, hg⟩ (z_tenure l D cy K L M H.size za z0 z1 z2 z3 z4 z5 z6 z7 z8 z9 z10 z11 z12 z13 z14 z15 z16 z17 z18 z19 k1 k2 k3 SX SY PK PT hW i1 b2 b3 i6 i7 i8 i9 b10 i11 i12 i13 i14 i15 b16 i17 i19 hGI hZS hZP) (cwV 3 hg (gV wd_1183 wd_1184 wd_1185 wd_717 wd_1186) rfl rfl rfl (by decide +kernel) ⟨(Nat.le_of_ble_eq_true rfl), (Nat.le_of_ble_eq_true rfl)⟩) ⟨PG.blind, va_recv hK hP1 (ci := 13) (q0 := 0) rfl rfl, fun U hU hW9 => ⟨rfl, PG.at hP1 hK hD1 hN hU hW9⟩⟩ rfl rfl hl.1 rfl (lv_room (Nat.le_of_ble_eq_true rfl)) dL_law_1328 hcs) hS (fun q _ h => hFc q h) hFc (fun r u t H1 locs1 ht hvm hw hB hz1 hk1 hS1 => ?_)
  have hpost := hw
  have hW9 := hW
  obtain ⟨hP9, hD9⟩ := hB
  rw [ht] at hP9
  obtain ⟨hQ9, hap9⟩ := hap.step hP2 hk1 hD9
  exact kk r _ H1 locs1 hpost ⟨0, z1, z4, z5, z6, z7, z8, z9, z10, z11, z12, z13, z14, z15, z16, z17, z18, z19, K, L, M, rfl, i1, b2, b3, i6, i7, i8, i9, b10, i11, i12, i13, i14, i15, b16, i17, i19, hW9, hGI, hR5, hZP, hZS, hWH, hZG, hTN⟩ hP9 hQ9 (hD9.mono hFc) hap9 hS1
set_option maxHeartbeats 4000000 in
set_option maxRecDepth 100000 in
theorem cz_who {p : Program} {l : Launch} {e : Env} {s : State} {m : MethodId} {below : List Frame} {meth : Method} {c : Code} {b Ln : Nat} {xs : Nat → Int32} (C0 : lw_At p s m meth c b Ln xs) {D : va_G} {cy : Nat → ClassId} {A : Nat → Prop} (hA : ∀ q, s.heap.size ≤ q → A q) (hN : NW s) (hK : va_K D vwCl (tysC cy) s) (hST : STAT A s) {za z2 z3 : Nat} {PK PT : Nat → Int32} {SX : Nat → Nat → Int} {SY : Nat → Nat → Nat → Int32} {WH : Int32} {CA : Nat → Int32} {Wa Wb : va_W} {H : Heap} {locs : List Loc} {cells slots : Nat} {ls : Array Slot} {lv : List (Nat × Value)} (k1 : Int32) (k2 : Int32) (k3 : Int32)  (hcs : cells + 0 ≤ 600000 ∧ slots + 0 ≤ 7302250) (hXS : ZS cy za z2 z3 PK PT SX SY WH CA Wa) (hP1 : va_P D vwCl Wa H) (hP2 : va_P D vwCl Wb H) (hD1 : va_D A Wa) (hap : APT Wa Wb) (hS : va_S A s.heap H locs) (hl : lv_has ls 4 lv) (kk : ∀ (r : Int32) (Wc : va_W) (H1 : Heap) (locs1 : List Loc), ZS cy za z2 z3 PK PT SX SY WH CA Wc → va_P D vwCl Wc H1 → va_P D vwCl Wb H1 → va_D A Wc → APT Wc Wb → va_S A s.heap H1 locs1 → W p l e room_1 s m #[Value.ref b] below meth c H1 locs1 (cells + 0) (slots + 0) (lw_Z below #[Value.ref b] s) (F0 m 1374 ls [.int r])) : W p l e room_1 s m #[Value.ref b] below meth c H locs cells slots (lw_Z below #[Value.ref b] s) (F0 m 1371 ls [.int k3, .int k2, .int k1, .ref za]) := by
  obtain ⟨hx, hb, hr, hml, hown, hts, hX, hbl, hlocks, hgv⟩ := id C0
  have hg : ∀ w ∈ lw_good, w.before #[Value.ref b] s = true := fun w h => hts w (List.mem_filter.mp h).1
  have hown : s.vm.findClass RL = some m.cls := hown
  have hSVz := (ZS.svhi hXS).1
  obtain ⟨z0, z1, z4, z5, z6, z7, z8, z9, z10, z11, z12, z13, z14, z15, z16, z17, z18, z19, K, L, M, rfl, i1, b2, b3, i6, i7, i8, i9, b10, i11, i12, i13, i14, i15, b16, i17, i19, hW, hGI, hR5, hZP, hZS, hWH, hZG, hTN⟩ := hXS
  have hFc : ∀ q, va_A ([(za, (b13_0 z0 z1 (nI z2) (nI z3) z4 z5 z6 z7 z8 z9 (nI z10) z11 z12 z13 z14 z15 (nI z16) z17 z18 z19))] ++ va_pl L M) H.size q → A q := pg_free hD1 hS hA
  refine va_calli (va_runV (As := [.int k1, .int k2, .int k3]) (rest := []) ⟨hx, hb, hml, hown, hg⟩ (r_X13_who l D cy K L M H.size za z0 z1 z2 z3 z4 z5 z6 z7 z8 z9 z10 z11 z12 z13 z14 z15 z16 z17 z18 z19 k1 k2 k3 hW i1 b2 b3 i6 i7 i8 i9 b10 i11 i12 i13 i14 i15 b16 i17 i19) (cwV 3 hg (gV wd_1187 wd_1188 wd_1189 wd_717 wd_1190) rfl rfl rfl (by decide +kernel) ⟨(Nat.le_of_ble_eq_true rfl), (Nat.le_of_ble_eq_true rfl)⟩) ⟨PG.blind, va_recv hK hP1 (ci := 13) (q0 := 0) rfl rfl, fun U hU hW9 => ⟨rfl, PG.at hP1 hK hD1 hN hU hW9⟩⟩ rfl rfl hl.1 rfl (lv_room (Nat.le_of_ble_eq_true rfl)) dL_law_1371 hcs) hS (fun q _ h => hFc q h) hFc (fun r u t H1 locs1 ht hvm hw hB hz1 hk1 hS1 => ?_)
  have hpost := hw
  have hW9 := hW
  obtain ⟨hP9, hD9⟩ := hB
  rw [ht] at hP9
  obtain ⟨hQ9, hap9⟩ := hap.step hP2 hk1 hD9
  exact kk r _ H1 locs1 ⟨0, z1, z4, z5, z6, z7, z8, z9, z10, z11, z12, z13, z14, z15, z16, z17, z18, z19, K, L, M, rfl, i1, b2, b3, i6, i7, i8, i9, b10, i11, i12, i13, i14, i15, b16, i17, i19, hW9, hGI, hR5, hZP, hZS, hWH, hZG, hTN⟩ hP9 hQ9 (hD9.mono hFc) hap9 hS1
set_option maxHeartbeats 4000000 in
set_option maxRecDepth 100000 in
theorem cz_stretch {p : Program} {l : Launch} {e : Env} {s : State} {m : MethodId} {below : List Frame} {meth : Method} {c : Code} {b Ln : Nat} {xs : Nat → Int32} (C0 : lw_At p s m meth c b Ln xs) {D : va_G} {cy : Nat → ClassId} {A : Nat → Prop} (hA : ∀ q, s.heap.size ≤ q → A q) (hN : NW s) (hK : va_K D vwCl (tysC cy) s) (hST : STAT A s) {za z2 z3 : Nat} {PK PT : Nat → Int32} {SX : Nat → Nat → Int} {SY : Nat → Nat → Nat → Int32} {WH : Int32} {CA : Nat → Int32} {Wa Wb : va_W} {H : Heap} {locs : List Loc} {cells slots : Nat} {ls : Array Slot} {lv : List (Nat × Value)} (k1 : Int32) (k2 : Int32) (k3 : Int32)  (hcs : cells + 0 ≤ 600000 ∧ slots + 0 ≤ 7302250) (hXS : ZS cy za z2 z3 PK PT SX SY WH CA Wa) (hP1 : va_P D vwCl Wa H) (hP2 : va_P D vwCl Wb H) (hD1 : va_D A Wa) (hap : APT Wa Wb) (hS : va_S A s.heap H locs) (hl : lv_has ls 4 lv) (kk : ∀ (r : Int64) (Wc : va_W) (H1 : Heap) (locs1 : List Loc), ZS cy za z2 z3 PK PT SX SY WH CA Wc → va_P D vwCl Wc H1 → va_P D vwCl Wb H1 → va_D A Wc → APT Wc Wb → va_S A s.heap H1 locs1 → W p l e room_1 s m #[Value.ref b] below meth c H1 locs1 (cells + 0) (slots + 0) (lw_Z below #[Value.ref b] s) (F0 m 1417 ls [.long r])) : W p l e room_1 s m #[Value.ref b] below meth c H locs cells slots (lw_Z below #[Value.ref b] s) (F0 m 1414 ls [.int k3, .int k2, .int k1, .ref za]) := by
  obtain ⟨hx, hb, hr, hml, hown, hts, hX, hbl, hlocks, hgv⟩ := id C0
  have hg : ∀ w ∈ lw_good, w.before #[Value.ref b] s = true := fun w h => hts w (List.mem_filter.mp h).1
  have hown : s.vm.findClass RL = some m.cls := hown
  have hSVz := (ZS.svhi hXS).1
  obtain ⟨z0, z1, z4, z5, z6, z7, z8, z9, z10, z11, z12, z13, z14, z15, z16, z17, z18, z19, K, L, M, rfl, i1, b2, b3, i6, i7, i8, i9, b10, i11, i12, i13, i14, i15, b16, i17, i19, hW, hGI, hR5, hZP, hZS, hWH, hZG, hTN⟩ := hXS
  have hFc : ∀ q, va_A ([(za, (b13_0 z0 z1 (nI z2) (nI z3) z4 z5 z6 z7 z8 z9 (nI z10) z11 z12 z13 z14 z15 (nI z16) z17 z18 z19))] ++ va_pl L M) H.size q → A q := pg_free hD1 hS hA
  refine va_calll (va_runV (As := [.int k1, .int k2, .int k3]) (rest := []) ⟨hx, hb, hml, hown, hg⟩ (r_X13_stretch_ l D cy K L M H.size za z0 z1 z2 z3 z4 z5 z6 z7 z8 z9 z10 z11 z12 z13 z14 z15 z16 z17 z18 z19 k1 k2 k3 hW i1 b2 b3 i6 i7 i8 i9 b10 i11 i12 i13 i14 i15 b16 i17 i19) (cwV 3 hg (gV wd_1191 wd_1192 wd_1193 wd_717 wd_1194) rfl rfl rfl (by decide +kernel) ⟨(Nat.le_of_ble_eq_true rfl), (Nat.le_of_ble_eq_true rfl)⟩) ⟨PG.blind, va_recv hK hP1 (ci := 13) (q0 := 0) rfl rfl, fun U hU hW9 => ⟨rfl, PG.at hP1 hK hD1 hN hU hW9⟩⟩ rfl rfl hl.1 rfl (lv_room (Nat.le_of_ble_eq_true rfl)) dL_law_1414 hcs) hS (fun q _ h => hFc q h) hFc (fun r u t H1 locs1 ht hvm hw hB hz1 hk1 hS1 => ?_)
  have hpost := hw
  have hW9 := hW
  obtain ⟨hP9, hD9⟩ := hB
  rw [ht] at hP9
  obtain ⟨hQ9, hap9⟩ := hap.step hP2 hk1 hD9
  exact kk r _ H1 locs1 ⟨0, z1, z4, z5, z6, z7, z8, z9, z10, z11, z12, z13, z14, z15, z16, z17, z18, z19, K, L, M, rfl, i1, b2, b3, i6, i7, i8, i9, b10, i11, i12, i13, i14, i15, b16, i17, i19, hW9, hGI, hR5, hZP, hZS, hWH, hZG, hTN⟩ hP9 hQ9 (hD9.mono hFc) hap9 hS1
set_option maxHeartbeats 4000000 in
set_option maxRecDepth 100000 in
theorem cz_due {p : Program} {l : Launch} {e : Env} {s : State} {m : MethodId} {below : List Frame} {meth : Method} {c : Code} {b Ln : Nat} {xs : Nat → Int32} (C0 : lw_At p s m meth c b Ln xs) {D : va_G} {cy : Nat → ClassId} {A : Nat → Prop} (hA : ∀ q, s.heap.size ≤ q → A q) (hN : NW s) (hK : va_K D vwCl (tysC cy) s) (hST : STAT A s) {za z2 z3 : Nat} {PK PT : Nat → Int32} {SX : Nat → Nat → Int} {SY : Nat → Nat → Nat → Int32} {WH : Int32} {CA : Nat → Int32} {Wa Wb : va_W} {H : Heap} {locs : List Loc} {cells slots : Nat} {ls : Array Slot} {lv : List (Nat × Value)} (k1 : Int32) (k2 : Int32) (k3 : Int32)  (hcs : cells + 0 ≤ 600000 ∧ slots + 0 ≤ 7302250) (hXS : ZS cy za z2 z3 PK PT SX SY WH CA Wa) (hP1 : va_P D vwCl Wa H) (hP2 : va_P D vwCl Wb H) (hD1 : va_D A Wa) (hap : APT Wa Wb) (hS : va_S A s.heap H locs) (hl : lv_has ls 4 lv) (kk : ∀ (r : Int64) (Wc : va_W) (H1 : Heap) (locs1 : List Loc), ZS cy za z2 z3 PK PT SX SY WH CA Wc → va_P D vwCl Wc H1 → va_P D vwCl Wb H1 → va_D A Wc → APT Wc Wb → va_S A s.heap H1 locs1 → W p l e room_1 s m #[Value.ref b] below meth c H1 locs1 (cells + 0) (slots + 0) (lw_Z below #[Value.ref b] s) (F0 m 1460 ls [.long r])) : W p l e room_1 s m #[Value.ref b] below meth c H locs cells slots (lw_Z below #[Value.ref b] s) (F0 m 1457 ls [.int k3, .int k2, .int k1, .ref za]) := by
  obtain ⟨hx, hb, hr, hml, hown, hts, hX, hbl, hlocks, hgv⟩ := id C0
  have hg : ∀ w ∈ lw_good, w.before #[Value.ref b] s = true := fun w h => hts w (List.mem_filter.mp h).1
  have hown : s.vm.findClass RL = some m.cls := hown
  have hSVz := (ZS.svhi hXS).1
  obtain ⟨z0, z1, z4, z5, z6, z7, z8, z9, z10, z11, z12, z13, z14, z15, z16, z17, z18, z19, K, L, M, rfl, i1, b2, b3, i6, i7, i8, i9, b10, i11, i12, i13, i14, i15, b16, i17, i19, hW, hGI, hR5, hZP, hZS, hWH, hZG, hTN⟩ := hXS
  have hFc : ∀ q, va_A ([(za, (b13_0 z0 z1 (nI z2) (nI z3) z4 z5 z6 z7 z8 z9 (nI z10) z11 z12 z13 z14 z15 (nI z16) z17 z18 z19))] ++ va_pl L M) H.size q → A q := pg_free hD1 hS hA
  refine va_calll (va_runV (As := [.int k1, .int k2, .int k3]) (rest := []) ⟨hx, hb, hml, hown, hg⟩ (r_X13_due l D cy K L M H.size za z0 z1 z2 z3 z4 z5 z6 z7 z8 z9 z10 z11 z12 z13 z14 z15 z16 z17 z18 z19 k1 k2 k3 hW i1 b2 b3 i6 i7 i8 i9 b10 i11 i12 i13 i14 i15 b16 i17 i19) (cwV 3 hg (gV wd_1195 wd_1196 wd_1197 wd_717 wd_1198) rfl rfl rfl (by decide +kernel) ⟨(Nat.le_of_ble_eq_true rfl), (Nat.le_of_ble_eq_true rfl)⟩) ⟨PG.blind, va_recv hK hP1 (ci := 13) (q0 := 0) rfl rfl, fun U hU hW9 => ⟨rfl, PG.at hP1 hK hD1 hN hU hW9⟩⟩ rfl rfl hl.1 rfl (lv_room (Nat.le_of_ble_eq_true rfl)) dL_law_1457 hcs) hS (fun q _ h => hFc q h) hFc (fun r u t H1 locs1 ht hvm hw hB hz1 hk1 hS1 => ?_)
  have hpost := hw
  have hW9 := hW
  obtain ⟨hP9, hD9⟩ := hB
  rw [ht] at hP9
  obtain ⟨hQ9, hap9⟩ := hap.step hP2 hk1 hD9
  exact kk r _ H1 locs1 ⟨0, z1, z4, z5, z6, z7, z8, z9, z10, z11, z12, z13, z14, z15, z16, z17, z18, z19, K, L, M, rfl, i1, b2, b3, i6, i7, i8, i9, b10, i11, i12, i13, i14, i15, b16, i17, i19, hW9, hGI, hR5, hZP, hZS, hWH, hZG, hTN⟩ hP9 hQ9 (hD9.mono hFc) hap9 hS1
set_option maxHeartbeats 4000000 in
set_option maxRecDepth 100000 in
theorem cz_told {p : Program} {l : Launch} {e : Env} {s : State} {m : MethodId} {below : List Frame} {meth : Method} {c : Code} {b Ln : Nat} {xs : Nat → Int32} (C0 : lw_At p s m meth c b Ln xs) {D : va_G} {cy : Nat → ClassId} {A : Nat → Prop} (hA : ∀ q, s.heap.size ≤ q → A q) (hN : NW s) (hK : va_K D vwCl (tysC cy) s) (hST : STAT A s) {za z2 z3 : Nat} {PK PT : Nat → Int32} {SX : Nat → Nat → Int} {SY : Nat → Nat → Nat → Int32} {WH : Int32} {CA : Nat → Int32} {Wa Wb : va_W} {H : Heap} {locs : List Loc} {cells slots : Nat} {ls : Array Slot} {lv : List (Nat × Value)} (k1 : Int32) (k2 : Int32)  (hcs : cells + 0 ≤ 600000 ∧ slots + 0 ≤ 7302250) (hXS : ZS cy za z2 z3 PK PT SX SY WH CA Wa) (hP1 : va_P D vwCl Wa H) (hP2 : va_P D vwCl Wb H) (hD1 : va_D A Wa) (hap : APT Wa Wb) (hS : va_S A s.heap H locs) (hl : lv_has ls 4 lv) (kk : ∀ (r : Int32) (Wc : va_W) (H1 : Heap) (locs1 : List Loc), r = anTd z2 SX SY k1 k2 → ZS cy za z2 z3 PK PT SX SY WH CA Wc → va_P D vwCl Wc H1 → va_P D vwCl Wb H1 → va_D A Wc → APT Wc Wb → va_S A s.heap H1 locs1 → W p l e room_1 s m #[Value.ref b] below meth c H1 locs1 (cells + 0) (slots + 0) (lw_Z below #[Value.ref b] s) (F0 m 1493 ls [.int r])) : W p l e room_1 s m #[Value.ref b] below meth c H locs cells slots (lw_Z below #[Value.ref b] s) (F0 m 1490 ls [.int k2, .int k1, .ref za]) := by
  obtain ⟨hx, hb, hr, hml, hown, hts, hX, hbl, hlocks, hgv⟩ := id C0
  have hg : ∀ w ∈ lw_good, w.before #[Value.ref b] s = true := fun w h => hts w (List.mem_filter.mp h).1
  have hown : s.vm.findClass RL = some m.cls := hown
  have hSVz := (ZS.svhi hXS).1
  obtain ⟨z0, z1, z4, z5, z6, z7, z8, z9, z10, z11, z12, z13, z14, z15, z16, z17, z18, z19, K, L, M, rfl, i1, b2, b3, i6, i7, i8, i9, b10, i11, i12, i13, i14, i15, b16, i17, i19, hW, hGI, hR5, hZP, hZS, hWH, hZG, hTN⟩ := hXS
  have hFc : ∀ q, va_A ([(za, (b13_0 z0 z1 (nI z2) (nI z3) z4 z5 z6 z7 z8 z9 (nI z10) z11 z12 z13 z14 z15 (nI z16) z17 z18 z19))] ++ va_pl L M) H.size q → A q := pg_free hD1 hS hA
  refine va_calli (va_runV (As := [.int k1, .int k2]) (rest := []) ⟨hx, hb, hml, hown, hg⟩ (z_told l D cy K L M H.size za z0 z1 z2 z3 z4 z5 z6 z7 z8 z9 z10 z11 z12 z13 z14 z15 z16 z17 z18 z19 k1 k2 SX SY hW i1 b2 b3 i6 i7 i8 i9 b10 i11 i12 i13 i14 i15 b16 i17 i19 hGI hZS) (cwV 2 hg (gV wd_1199 wd_1200 wd_1201 wd_717 wd_1202) rfl rfl rfl (by decide +kernel) ⟨(Nat.le_of_ble_eq_true rfl), (Nat.le_of_ble_eq_true rfl)⟩) ⟨PG.blind, va_recv hK hP1 (ci := 13) (q0 := 0) rfl rfl, fun U hU hW9 => ⟨rfl, PG.at hP1 hK hD1 hN hU hW9⟩⟩ rfl rfl hl.1 rfl (lv_room (Nat.le_of_ble_eq_true rfl)) dL_law_1490 hcs) hS (fun q _ h => hFc q h) hFc (fun r u t H1 locs1 ht hvm hw hB hz1 hk1 hS1 => ?_)
  have hpost := hw
  have hW9 := hW
  obtain ⟨hP9, hD9⟩ := hB
  rw [ht] at hP9
  obtain ⟨hQ9, hap9⟩ := hap.step hP2 hk1 hD9
  exact kk r _ H1 locs1 hpost ⟨0, z1, z4, z5, z6, z7, z8, z9, z10, z11, z12, z13, z14, z15, z16, z17, z18, z19, K, L, M, rfl, i1, b2, b3, i6, i7, i8, i9, b10, i11, i12, i13, i14, i15, b16, i17, i19, hW9, hGI, hR5, hZP, hZS, hWH, hZG, hTN⟩ hP9 hQ9 (hD9.mono hFc) hap9 hS1
set_option maxHeartbeats 4000000 in
set_option maxRecDepth 100000 in
theorem cz_sum {p : Program} {l : Launch} {e : Env} {s : State} {m : MethodId} {below : List Frame} {meth : Method} {c : Code} {b Ln : Nat} {xs : Nat → Int32} (C0 : lw_At p s m meth c b Ln xs) {D : va_G} {cy : Nat → ClassId} {A : Nat → Prop} (hA : ∀ q, s.heap.size ≤ q → A q) (hN : NW s) (hK : va_K D vwCl (tysC cy) s) (hST : STAT A s) {za z2 z3 : Nat} {PK PT : Nat → Int32} {SX : Nat → Nat → Int} {SY : Nat → Nat → Nat → Int32} {WH : Int32} {CA : Nat → Int32} {Wa Wb : va_W} {H : Heap} {locs : List Loc} {cells slots : Nat} {ls : Array Slot} {lv : List (Nat × Value)} (k1 : Int32) (k2 : Int32) (k3 : Int32)  (hcs : cells + 0 ≤ 600000 ∧ slots + 0 ≤ 7302250) (hXS : ZS cy za z2 z3 PK PT SX SY WH CA Wa) (hP1 : va_P D vwCl Wa H) (hP2 : va_P D vwCl Wb H) (hD1 : va_D A Wa) (hap : APT Wa Wb) (hS : va_S A s.heap H locs) (hl : lv_has ls 4 lv) (kk : ∀ (r : Int64) (Wc : va_W) (H1 : Heap) (locs1 : List Loc), ZS cy za z2 z3 PK PT SX SY WH CA Wc → va_P D vwCl Wc H1 → va_P D vwCl Wb H1 → va_D A Wc → APT Wc Wb → va_S A s.heap H1 locs1 → W p l e room_1 s m #[Value.ref b] below meth c H1 locs1 (cells + 0) (slots + 0) (lw_Z below #[Value.ref b] s) (F0 m 1536 ls [.long r])) : W p l e room_1 s m #[Value.ref b] below meth c H locs cells slots (lw_Z below #[Value.ref b] s) (F0 m 1533 ls [.int k3, .int k2, .int k1, .ref za]) := by
  obtain ⟨hx, hb, hr, hml, hown, hts, hX, hbl, hlocks, hgv⟩ := id C0
  have hg : ∀ w ∈ lw_good, w.before #[Value.ref b] s = true := fun w h => hts w (List.mem_filter.mp h).1
  have hown : s.vm.findClass RL = some m.cls := hown
  have hSVz := (ZS.svhi hXS).1
  obtain ⟨z0, z1, z4, z5, z6, z7, z8, z9, z10, z11, z12, z13, z14, z15, z16, z17, z18, z19, K, L, M, rfl, i1, b2, b3, i6, i7, i8, i9, b10, i11, i12, i13, i14, i15, b16, i17, i19, hW, hGI, hR5, hZP, hZS, hWH, hZG, hTN⟩ := hXS
  have hFc : ∀ q, va_A ([(za, (b13_0 z0 z1 (nI z2) (nI z3) z4 z5 z6 z7 z8 z9 (nI z10) z11 z12 z13 z14 z15 (nI z16) z17 z18 z19))] ++ va_pl L M) H.size q → A q := pg_free hD1 hS hA
  refine va_calll (va_runV (As := [.int k1, .int k2, .int k3]) (rest := []) ⟨hx, hb, hml, hown, hg⟩ (r_X13_sum l D cy K L M H.size za z0 z1 z2 z3 z4 z5 z6 z7 z8 z9 z10 z11 z12 z13 z14 z15 z16 z17 z18 z19 k1 k2 k3 hW i1 b2 b3 i6 i7 i8 i9 b10 i11 i12 i13 i14 i15 b16 i17 i19) (cwV 3 hg (gV wd_1203 wd_1204 wd_1205 wd_717 wd_1206) rfl rfl rfl (by decide +kernel) ⟨(Nat.le_of_ble_eq_true rfl), (Nat.le_of_ble_eq_true rfl)⟩) ⟨PG.blind, va_recv hK hP1 (ci := 13) (q0 := 0) rfl rfl, fun U hU hW9 => ⟨rfl, PG.at hP1 hK hD1 hN hU hW9⟩⟩ rfl rfl hl.1 rfl (lv_room (Nat.le_of_ble_eq_true rfl)) dL_law_1533 hcs) hS (fun q _ h => hFc q h) hFc (fun r u t H1 locs1 ht hvm hw hB hz1 hk1 hS1 => ?_)
  have hpost := hw
  have hW9 := hW
  obtain ⟨hP9, hD9⟩ := hB
  rw [ht] at hP9
  obtain ⟨hQ9, hap9⟩ := hap.step hP2 hk1 hD9
  exact kk r _ H1 locs1 ⟨0, z1, z4, z5, z6, z7, z8, z9, z10, z11, z12, z13, z14, z15, z16, z17, z18, z19, K, L, M, rfl, i1, b2, b3, i6, i7, i8, i9, b10, i11, i12, i13, i14, i15, b16, i17, i19, hW9, hGI, hR5, hZP, hZS, hWH, hZG, hTN⟩ hP9 hQ9 (hD9.mono hFc) hap9 hS1
set_option maxHeartbeats 4000000 in
set_option maxRecDepth 100000 in
theorem cz_entry {p : Program} {l : Launch} {e : Env} {s : State} {m : MethodId} {below : List Frame} {meth : Method} {c : Code} {b Ln : Nat} {xs : Nat → Int32} (C0 : lw_At p s m meth c b Ln xs) {D : va_G} {cy : Nat → ClassId} {A : Nat → Prop} (hA : ∀ q, s.heap.size ≤ q → A q) (hN : NW s) (hK : va_K D vwCl (tysC cy) s) (hST : STAT A s) {za z2 z3 : Nat} {PK PT : Nat → Int32} {SX : Nat → Nat → Int} {SY : Nat → Nat → Nat → Int32} {WH : Int32} {CA : Nat → Int32} {Wa Wb : va_W} {H : Heap} {locs : List Loc} {cells slots : Nat} {ls : Array Slot} {lv : List (Nat × Value)} (k1 : Int32) (k2 : Int32) (k3 : Int32)  (hcs : cells + 0 ≤ 600000 ∧ slots + 0 ≤ 7302250) (hXS : ZS cy za z2 z3 PK PT SX SY WH CA Wa) (hP1 : va_P D vwCl Wa H) (hP2 : va_P D vwCl Wb H) (hD1 : va_D A Wa) (hap : APT Wa Wb) (hS : va_S A s.heap H locs) (hl : lv_has ls 4 lv) (kk : ∀ (r : Int64) (Wc : va_W) (H1 : Heap) (locs1 : List Loc), r = anEy z2 SX SY k1 k2 k3 → ZS cy za z2 z3 PK PT SX SY WH CA Wc → va_P D vwCl Wc H1 → va_P D vwCl Wb H1 → va_D A Wc → APT Wc Wb → va_S A s.heap H1 locs1 → W p l e room_1 s m #[Value.ref b] below meth c H1 locs1 (cells + 0) (slots + 0) (lw_Z below #[Value.ref b] s) (F0 m 1579 ls [.long r])) : W p l e room_1 s m #[Value.ref b] below meth c H locs cells slots (lw_Z below #[Value.ref b] s) (F0 m 1576 ls [.int k3, .int k2, .int k1, .ref za]) := by
  obtain ⟨hx, hb, hr, hml, hown, hts, hX, hbl, hlocks, hgv⟩ := id C0
  have hg : ∀ w ∈ lw_good, w.before #[Value.ref b] s = true := fun w h => hts w (List.mem_filter.mp h).1
  have hown : s.vm.findClass RL = some m.cls := hown
  have hSVz := (ZS.svhi hXS).1
  obtain ⟨z0, z1, z4, z5, z6, z7, z8, z9, z10, z11, z12, z13, z14, z15, z16, z17, z18, z19, K, L, M, rfl, i1, b2, b3, i6, i7, i8, i9, b10, i11, i12, i13, i14, i15, b16, i17, i19, hW, hGI, hR5, hZP, hZS, hWH, hZG, hTN⟩ := hXS
  have hFc : ∀ q, va_A ([(za, (b13_0 z0 z1 (nI z2) (nI z3) z4 z5 z6 z7 z8 z9 (nI z10) z11 z12 z13 z14 z15 (nI z16) z17 z18 z19))] ++ va_pl L M) H.size q → A q := pg_free hD1 hS hA
  refine va_calll (va_runV (As := [.int k1, .int k2, .int k3]) (rest := []) ⟨hx, hb, hml, hown, hg⟩ (z_entry l D cy K L M H.size za z0 z1 z2 z3 z4 z5 z6 z7 z8 z9 z10 z11 z12 z13 z14 z15 z16 z17 z18 z19 k1 k2 k3 SX SY hW i1 b2 b3 i6 i7 i8 i9 b10 i11 i12 i13 i14 i15 b16 i17 i19 hGI hZS) (cwV 3 hg (gV wd_1207 wd_1208 wd_1209 wd_717 wd_1210) rfl rfl rfl (by decide +kernel) ⟨(Nat.le_of_ble_eq_true rfl), (Nat.le_of_ble_eq_true rfl)⟩) ⟨PG.blind, va_recv hK hP1 (ci := 13) (q0 := 0) rfl rfl, fun U hU hW9 => ⟨rfl, PG.at hP1 hK hD1 hN hU hW9⟩⟩ rfl rfl hl.1 rfl (lv_room (Nat.le_of_ble_eq_true rfl)) dL_law_1576 hcs) hS (fun q _ h => hFc q h) hFc (fun r u t H1 locs1 ht hvm hw hB hz1 hk1 hS1 => ?_)
  have hpost := hw
  have hW9 := hW
  obtain ⟨hP9, hD9⟩ := hB
  rw [ht] at hP9
  obtain ⟨hQ9, hap9⟩ := hap.step hP2 hk1 hD9
  exact kk r _ H1 locs1 hpost ⟨0, z1, z4, z5, z6, z7, z8, z9, z10, z11, z12, z13, z14, z15, z16, z17, z18, z19, K, L, M, rfl, i1, b2, b3, i6, i7, i8, i9, b10, i11, i12, i13, i14, i15, b16, i17, i19, hW9, hGI, hR5, hZP, hZS, hWH, hZG, hTN⟩ hP9 hQ9 (hD9.mono hFc) hap9 hS1
set_option maxHeartbeats 4000000 in
set_option maxRecDepth 100000 in
theorem cz_sheet {p : Program} {l : Launch} {e : Env} {s : State} {m : MethodId} {below : List Frame} {meth : Method} {c : Code} {b Ln : Nat} {xs : Nat → Int32} (C0 : lw_At p s m meth c b Ln xs) {D : va_G} {cy : Nat → ClassId} {A : Nat → Prop} (hA : ∀ q, s.heap.size ≤ q → A q) (hN : NW s) (hK : va_K D vwCl (tysC cy) s) (hST : STAT A s) {za z2 z3 : Nat} {PK PT : Nat → Int32} {SX : Nat → Nat → Int} {SY : Nat → Nat → Nat → Int32} {WH : Int32} {CA : Nat → Int32} {Wa Wb : va_W} {H : Heap} {locs : List Loc} {cells slots : Nat} {ls : Array Slot} {lv : List (Nat × Value)} (k1 : Int32) (k2 : Int64)  (hcs : cells + 0 ≤ 600000 ∧ slots + 0 ≤ 7302250) (hXS : ZS cy za z2 z3 PK PT SX SY WH CA Wa) (hP1 : va_P D vwCl Wa H) (hP2 : va_P D vwCl Wb H) (hD1 : va_D A Wa) (hap : APT Wa Wb) (hS : va_S A s.heap H locs) (hl : lv_has ls 4 lv) (kk : ∀ (r : Int32) (Wc : va_W) (H1 : Heap) (locs1 : List Loc), ZS cy za z2 z3 PK PT SX SY (-1) CA Wc → va_P D vwCl Wc H1 → va_P D vwCl Wb H1 → va_D A Wc → APT Wc Wb → va_S A s.heap H1 locs1 → W p l e room_1 s m #[Value.ref b] below meth c H1 locs1 (cells + 0) (slots + 0) (lw_Z below #[Value.ref b] s) (F0 m 1642 ls [.int r])) : W p l e room_1 s m #[Value.ref b] below meth c H locs cells slots (lw_Z below #[Value.ref b] s) (F0 m 1639 ls [.long k2, .int k1, .ref za]) := by
  obtain ⟨hx, hb, hr, hml, hown, hts, hX, hbl, hlocks, hgv⟩ := id C0
  have hg : ∀ w ∈ lw_good, w.before #[Value.ref b] s = true := fun w h => hts w (List.mem_filter.mp h).1
  have hown : s.vm.findClass RL = some m.cls := hown
  have hSVz := (ZS.svhi hXS).1
  obtain ⟨z0, z1, z4, z5, z6, z7, z8, z9, z10, z11, z12, z13, z14, z15, z16, z17, z18, z19, K, L, M, rfl, i1, b2, b3, i6, i7, i8, i9, b10, i11, i12, i13, i14, i15, b16, i17, i19, hW, hGI, hR5, hZP, hZS, hWH, hZG, hTN⟩ := hXS
  have hFc : ∀ q, va_A ([(za, (b13_0 z0 z1 (nI z2) (nI z3) z4 z5 z6 z7 z8 z9 (nI z10) z11 z12 z13 z14 z15 (nI z16) z17 z18 z19))] ++ va_pl L M) H.size q → A q := pg_free hD1 hS hA
  refine va_calli (va_runV (As := [.int k1, .long k2]) (rest := []) ⟨hx, hb, hml, hown, hg⟩ (r_X13_sheet l D cy K L M H.size za z0 z1 z2 z3 z4 z5 z6 z7 z8 z9 z10 z11 z12 z13 z14 z15 z16 z17 z18 z19 k1 k2 hW i1 b2 b3 i6 i7 i8 i9 b10 i11 i12 i13 i14 i15 b16 i17 i19) (cwV 2 hg (gV wd_1211 wd_1212 wd_1213 wd_717 wd_1214) rfl rfl rfl (by decide +kernel) ⟨(Nat.le_of_ble_eq_true rfl), (Nat.le_of_ble_eq_true rfl)⟩) ⟨PG.blind, va_recv hK hP1 (ci := 13) (q0 := 0) rfl rfl, fun U hU hW9 => ⟨rfl, PG.at hP1 hK hD1 hN hU hW9⟩⟩ rfl rfl hl.1 rfl (lv_room (Nat.le_of_ble_eq_true rfl)) dL_law_1639 hcs) hS (fun q _ h => hFc q h) hFc (fun r u t H1 locs1 ht hvm hw hB hz1 hk1 hS1 => ?_)
  obtain ⟨hW9, hF9, hpost⟩ := hw
  obtain ⟨w4, hP9, hD9⟩ := hB
  rw [ht] at hP9
  obtain ⟨hQ9, hap9⟩ := hap.step hP2 hk1 hD9
  exact kk r _ H1 locs1 ⟨0, z1, w4, (-1), z6, z7, z8, z9, z10, z11, z12, z13, z14, z15, z16, z17, z18, z19, K, L, u, rfl, i1, b2, b3, i6, i7, i8, i9, b10, i11, i12, i13, i14, i15, b16, i17, i19, hW9, (GI.mv hW hW9 i1 b2 hGI hF9 ((fG.rf (js := [])).frR hF9 (by decide)) (by decide) (by decide) (by decide)), (R5.mv hR5 i6 i7 hF9 (by decide) (by decide)), (ZP.mv hZP i6 i7 hF9 (by decide) (by decide)), (ZSx.mv hW hW9 i1 b2 hZS hF9 ((fG.rf (js := [])).frR hF9 (by decide)) (by decide) (by decide) (by decide)), rfl, (ZGC.mv hZG i8 hF9 (by decide)), hTN⟩ hP9 hQ9 (hD9.mono hFc) hap9 hS1
set_option maxHeartbeats 4000000 in
set_option maxRecDepth 100000 in
theorem cz_check {p : Program} {l : Launch} {e : Env} {s : State} {m : MethodId} {below : List Frame} {meth : Method} {c : Code} {b Ln : Nat} {xs : Nat → Int32} (C0 : lw_At p s m meth c b Ln xs) {D : va_G} {cy : Nat → ClassId} {A : Nat → Prop} (hA : ∀ q, s.heap.size ≤ q → A q) (hN : NW s) (hK : va_K D vwCl (tysC cy) s) (hST : STAT A s) {za z2 z3 : Nat} {PK PT : Nat → Int32} {SX : Nat → Nat → Int} {SY : Nat → Nat → Nat → Int32} {WH : Int32} {CA : Nat → Int32} {Wa Wb : va_W} {H : Heap} {locs : List Loc} {cells slots : Nat} {ls : Array Slot} {lv : List (Nat × Value)} (k1 : Int32)  (hcs : cells + 0 ≤ 600000 ∧ slots + 0 ≤ 7302250) (hXS : ZS cy za z2 z3 PK PT SX SY WH CA Wa) (hP1 : va_P D vwCl Wa H) (hP2 : va_P D vwCl Wb H) (hD1 : va_D A Wa) (hap : APT Wa Wb) (hS : va_S A s.heap H locs) (hl : lv_has ls 4 lv) (kk : ∀ (r : Int32) (Wc : va_W) (H1 : Heap) (locs1 : List Loc), ZS cy za z2 z3 PK PT SX SY (-1) CA Wc → va_P D vwCl Wc H1 → va_P D vwCl Wb H1 → va_D A Wc → APT Wc Wb → va_S A s.heap H1 locs1 → W p l e room_1 s m #[Value.ref b] below meth c H1 locs1 (cells + 0) (slots + 0) (lw_Z below #[Value.ref b] s) (F0 m 1665 ls [.int r])) : W p l e room_1 s m #[Value.ref b] below meth c H locs cells slots (lw_Z below #[Value.ref b] s) (F0 m 1662 ls [.int k1, .ref za]) := by
  obtain ⟨hx, hb, hr, hml, hown, hts, hX, hbl, hlocks, hgv⟩ := id C0
  have hg : ∀ w ∈ lw_good, w.before #[Value.ref b] s = true := fun w h => hts w (List.mem_filter.mp h).1
  have hown : s.vm.findClass RL = some m.cls := hown
  have hSVz := (ZS.svhi hXS).1
  obtain ⟨z0, z1, z4, z5, z6, z7, z8, z9, z10, z11, z12, z13, z14, z15, z16, z17, z18, z19, K, L, M, rfl, i1, b2, b3, i6, i7, i8, i9, b10, i11, i12, i13, i14, i15, b16, i17, i19, hW, hGI, hR5, hZP, hZS, hWH, hZG, hTN⟩ := hXS
  have hFc : ∀ q, va_A ([(za, (b13_0 z0 z1 (nI z2) (nI z3) z4 z5 z6 z7 z8 z9 (nI z10) z11 z12 z13 z14 z15 (nI z16) z17 z18 z19))] ++ va_pl L M) H.size q → A q := pg_free hD1 hS hA
  refine va_calli (va_runV (As := [.int k1]) (rest := []) ⟨hx, hb, hml, hown, hg⟩ (r_X13_check l D cy K L M H.size za z0 z1 z2 z3 z4 z5 z6 z7 z8 z9 z10 z11 z12 z13 z14 z15 z16 z17 z18 z19 k1 hW i1 b2 b3 i6 i7 i8 i9 b10 i11 i12 i13 i14 i15 b16 i17 i19) (cwV 1 hg (gV wd_1215 wd_1216 wd_1217 wd_717 wd_1218) rfl rfl rfl (by decide +kernel) ⟨(Nat.le_of_ble_eq_true rfl), (Nat.le_of_ble_eq_true rfl)⟩) ⟨PG.blind, va_recv hK hP1 (ci := 13) (q0 := 0) rfl rfl, fun U hU hW9 => ⟨rfl, PG.at hP1 hK hD1 hN hU hW9⟩⟩ rfl rfl hl.1 rfl (lv_room (Nat.le_of_ble_eq_true rfl)) dL_law_1662 hcs) hS (fun q _ h => hFc q h) hFc (fun r u t H1 locs1 ht hvm hw hB hz1 hk1 hS1 => ?_)
  have hpost := hw
  have hW9 := hW
  obtain ⟨w4, hP9, hD9⟩ := hB
  rw [ht] at hP9
  obtain ⟨hQ9, hap9⟩ := hap.step hP2 hk1 hD9
  exact kk r _ H1 locs1 ⟨0, z1, w4, (-1), z6, z7, z8, z9, z10, z11, z12, z13, z14, z15, z16, z17, z18, z19, K, L, M, rfl, i1, b2, b3, i6, i7, i8, i9, b10, i11, i12, i13, i14, i15, b16, i17, i19, hW9, hGI, hR5, hZP, hZS, rfl, hZG, hTN⟩ hP9 hQ9 (hD9.mono hFc) hap9 hS1
set_option maxHeartbeats 4000000 in
set_option maxRecDepth 100000 in
theorem cz_status {p : Program} {l : Launch} {e : Env} {s : State} {m : MethodId} {below : List Frame} {meth : Method} {c : Code} {b Ln : Nat} {xs : Nat → Int32} (C0 : lw_At p s m meth c b Ln xs) {D : va_G} {cy : Nat → ClassId} {A : Nat → Prop} (hA : ∀ q, s.heap.size ≤ q → A q) (hN : NW s) (hK : va_K D vwCl (tysC cy) s) (hST : STAT A s) {za z2 z3 : Nat} {PK PT : Nat → Int32} {SX : Nat → Nat → Int} {SY : Nat → Nat → Nat → Int32} {WH : Int32} {CA : Nat → Int32} {Wa Wb : va_W} {H : Heap} {locs : List Loc} {cells slots : Nat} {ls : Array Slot} {lv : List (Nat × Value)}   (hcs : cells + 0 ≤ 600000 ∧ slots + 0 ≤ 7302250) (hXS : ZS cy za z2 z3 PK PT SX SY WH CA Wa) (hP1 : va_P D vwCl Wa H) (hP2 : va_P D vwCl Wb H) (hD1 : va_D A Wa) (hap : APT Wa Wb) (hS : va_S A s.heap H locs) (hl : lv_has ls 4 lv) (kk : ∀ (r : Int32) (Wc : va_W) (H1 : Heap) (locs1 : List Loc), ZS cy za z2 z3 PK PT SX SY WH CA Wc → va_P D vwCl Wc H1 → va_P D vwCl Wb H1 → va_D A Wc → APT Wc Wb → va_S A s.heap H1 locs1 → W p l e room_1 s m #[Value.ref b] below meth c H1 locs1 (cells + 0) (slots + 0) (lw_Z below #[Value.ref b] s) (F0 m 1678 ls [.int r])) : W p l e room_1 s m #[Value.ref b] below meth c H locs cells slots (lw_Z below #[Value.ref b] s) (F0 m 1675 ls [.ref za]) := by
  obtain ⟨hx, hb, hr, hml, hown, hts, hX, hbl, hlocks, hgv⟩ := id C0
  have hg : ∀ w ∈ lw_good, w.before #[Value.ref b] s = true := fun w h => hts w (List.mem_filter.mp h).1
  have hown : s.vm.findClass RL = some m.cls := hown
  have hSVz := (ZS.svhi hXS).1
  obtain ⟨z0, z1, z4, z5, z6, z7, z8, z9, z10, z11, z12, z13, z14, z15, z16, z17, z18, z19, K, L, M, rfl, i1, b2, b3, i6, i7, i8, i9, b10, i11, i12, i13, i14, i15, b16, i17, i19, hW, hGI, hR5, hZP, hZS, hWH, hZG, hTN⟩ := hXS
  have hFc : ∀ q, va_A ([(za, (b13_0 z0 z1 (nI z2) (nI z3) z4 z5 z6 z7 z8 z9 (nI z10) z11 z12 z13 z14 z15 (nI z16) z17 z18 z19))] ++ va_pl L M) H.size q → A q := pg_free hD1 hS hA
  refine va_calli (va_runV (As := []) (rest := []) ⟨hx, hb, hml, hown, hg⟩ (r_X13_status l D cy K L M H.size za z0 z1 z2 z3 z4 z5 z6 z7 z8 z9 z10 z11 z12 z13 z14 z15 z16 z17 z18 z19 hW i1 b2 b3 i6 i7 i8 i9 b10 i11 i12 i13 i14 i15 b16 i17 i19) (cwV 0 hg (gV wd_1219 wd_1220 wd_1221 wd_717 wd_1222) rfl rfl rfl (by decide +kernel) ⟨(Nat.le_of_ble_eq_true rfl), (Nat.le_of_ble_eq_true rfl)⟩) ⟨PG.blind, va_recv hK hP1 (ci := 13) (q0 := 0) rfl rfl, fun U hU hW9 => ⟨rfl, PG.at hP1 hK hD1 hN hU hW9⟩⟩ rfl rfl hl.1 rfl (lv_room (Nat.le_of_ble_eq_true rfl)) dL_law_1675 hcs) hS (fun q _ h => hFc q h) hFc (fun r u t H1 locs1 ht hvm hw hB hz1 hk1 hS1 => ?_)
  have hpost := hw
  have hW9 := hW
  obtain ⟨hP9, hD9⟩ := hB
  rw [ht] at hP9
  obtain ⟨hQ9, hap9⟩ := hap.step hP2 hk1 hD9
  exact kk r _ H1 locs1 ⟨0, z1, z4, z5, z6, z7, z8, z9, z10, z11, z12, z13, z14, z15, z16, z17, z18, z19, K, L, M, rfl, i1, b2, b3, i6, i7, i8, i9, b10, i11, i12, i13, i14, i15, b16, i17, i19, hW9, hGI, hR5, hZP, hZS, hWH, hZG, hTN⟩ hP9 hQ9 (hD9.mono hFc) hap9 hS1
set_option maxHeartbeats 4000000 in
set_option maxRecDepth 100000 in
theorem cz_where {p : Program} {l : Launch} {e : Env} {s : State} {m : MethodId} {below : List Frame} {meth : Method} {c : Code} {b Ln : Nat} {xs : Nat → Int32} (C0 : lw_At p s m meth c b Ln xs) {D : va_G} {cy : Nat → ClassId} {A : Nat → Prop} (hA : ∀ q, s.heap.size ≤ q → A q) (hN : NW s) (hK : va_K D vwCl (tysC cy) s) (hST : STAT A s) {za z2 z3 : Nat} {PK PT : Nat → Int32} {SX : Nat → Nat → Int} {SY : Nat → Nat → Nat → Int32} {WH : Int32} {CA : Nat → Int32} {Wa Wb : va_W} {H : Heap} {locs : List Loc} {cells slots : Nat} {ls : Array Slot} {lv : List (Nat × Value)}   (hcs : cells + 0 ≤ 600000 ∧ slots + 0 ≤ 7302250) (hXS : ZS cy za z2 z3 PK PT SX SY WH CA Wa) (hP1 : va_P D vwCl Wa H) (hP2 : va_P D vwCl Wb H) (hD1 : va_D A Wa) (hap : APT Wa Wb) (hS : va_S A s.heap H locs) (hl : lv_has ls 4 lv) (kk : ∀ (r : Int32) (Wc : va_W) (H1 : Heap) (locs1 : List Loc), r = WH → ZS cy za z2 z3 PK PT SX SY WH CA Wc → va_P D vwCl Wc H1 → va_P D vwCl Wb H1 → va_D A Wc → APT Wc Wb → va_S A s.heap H1 locs1 → W p l e room_1 s m #[Value.ref b] below meth c H1 locs1 (cells + 0) (slots + 0) (lw_Z below #[Value.ref b] s) (F0 m 1691 ls [.int r])) : W p l e room_1 s m #[Value.ref b] below meth c H locs cells slots (lw_Z below #[Value.ref b] s) (F0 m 1688 ls [.ref za]) := by
  obtain ⟨hx, hb, hr, hml, hown, hts, hX, hbl, hlocks, hgv⟩ := id C0
  have hg : ∀ w ∈ lw_good, w.before #[Value.ref b] s = true := fun w h => hts w (List.mem_filter.mp h).1
  have hown : s.vm.findClass RL = some m.cls := hown
  have hSVz := (ZS.svhi hXS).1
  obtain ⟨z0, z1, z4, z5, z6, z7, z8, z9, z10, z11, z12, z13, z14, z15, z16, z17, z18, z19, K, L, M, rfl, i1, b2, b3, i6, i7, i8, i9, b10, i11, i12, i13, i14, i15, b16, i17, i19, hW, hGI, hR5, hZP, hZS, hWH, hZG, hTN⟩ := hXS
  have hFc : ∀ q, va_A ([(za, (b13_0 z0 z1 (nI z2) (nI z3) z4 z5 z6 z7 z8 z9 (nI z10) z11 z12 z13 z14 z15 (nI z16) z17 z18 z19))] ++ va_pl L M) H.size q → A q := pg_free hD1 hS hA
  refine va_calli (va_runV (As := []) (rest := []) ⟨hx, hb, hml, hown, hg⟩ (z_where l D cy K L M H.size za z0 z1 z2 z3 z4 z5 z6 z7 z8 z9 z10 z11 z12 z13 z14 z15 z16 z17 z18 z19 hW i1 b2 b3 i6 i7 i8 i9 b10 i11 i12 i13 i14 i15 b16 i17 i19) (cwV 0 hg (gV wd_1223 wd_1224 wd_1225 wd_717 wd_1226) rfl rfl rfl (by decide +kernel) ⟨(Nat.le_of_ble_eq_true rfl), (Nat.le_of_ble_eq_true rfl)⟩) ⟨PG.blind, va_recv hK hP1 (ci := 13) (q0 := 0) rfl rfl, fun U hU hW9 => ⟨rfl, PG.at hP1 hK hD1 hN hU hW9⟩⟩ rfl rfl hl.1 rfl (lv_room (Nat.le_of_ble_eq_true rfl)) dL_law_1688 hcs) hS (fun q _ h => hFc q h) hFc (fun r u t H1 locs1 ht hvm hw hB hz1 hk1 hS1 => ?_)
  have hpost := hw
  have hW9 := hW
  obtain ⟨hP9, hD9⟩ := hB
  rw [ht] at hP9
  obtain ⟨hQ9, hap9⟩ := hap.step hP2 hk1 hD9
  exact kk r _ H1 locs1 (hpost.trans hWH) ⟨0, z1, z4, z5, z6, z7, z8, z9, z10, z11, z12, z13, z14, z15, z16, z17, z18, z19, K, L, M, rfl, i1, b2, b3, i6, i7, i8, i9, b10, i11, i12, i13, i14, i15, b16, i17, i19, hW9, hGI, hR5, hZP, hZS, hWH, hZG, hTN⟩ hP9 hQ9 (hD9.mono hFc) hap9 hS1
