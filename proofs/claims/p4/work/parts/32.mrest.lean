theorem dX13_partner_0 : decode cX13_partner 0 = .ok (.aload_n 0, 1) := by decide +kernel
theorem dX13_partner_1 : decode cX13_partner 1 = .ok (.iconst 0, 1) := by decide +kernel
theorem dX13_partner_2 : decode cX13_partner 2 = .ok (.putfield 55, 3) := by decide +kernel
theorem dX13_partner_5 : decode cX13_partner 5 = .ok (.iload_n 1, 1) := by decide +kernel
theorem dX13_partner_6 : decode cX13_partner 6 = .ok (.iconst 1, 1) := by decide +kernel
theorem dX13_partner_7 : decode cX13_partner 7 = .ok (.if_icmp .eq 13, 3) := by decide +kernel
theorem dX13_partner_10 : decode cX13_partner 10 = .ok (.iload_n 1, 1) := by decide +kernel
theorem dX13_partner_11 : decode cX13_partner 11 = .ok (.iconst 2, 1) := by decide +kernel
theorem dX13_partner_12 : decode cX13_partner 12 = .ok (.if_icmp .eq 8, 3) := by decide +kernel
theorem dX13_partner_15 : decode cX13_partner 15 = .ok (.iload_n 1, 1) := by decide +kernel
theorem dX13_partner_16 : decode cX13_partner 16 = .ok (.iconst 4, 1) := by decide +kernel
theorem dX13_partner_17 : decode cX13_partner 17 = .ok (.if_icmp .ne 7, 3) := by decide +kernel
theorem dX13_partner_20 : decode cX13_partner 20 = .ok (.iconst 1, 1) := by decide +kernel
theorem dX13_partner_21 : decode cX13_partner 21 = .ok (.goto 4, 3) := by decide +kernel
theorem dX13_partner_24 : decode cX13_partner 24 = .ok (.iconst 0, 1) := by decide +kernel
theorem dX13_partner_25 : decode cX13_partner 25 = .ok (.istore_n 3, 1) := by decide +kernel
theorem dX13_partner_26 : decode cX13_partner 26 = .ok (.iload_n 1, 1) := by decide +kernel
theorem dX13_partner_27 : decode cX13_partner 27 = .ok (.ifCond .lt 22, 3) := by decide +kernel
theorem dX13_partner_30 : decode cX13_partner 30 = .ok (.iload_n 1, 1) := by decide +kernel
theorem dX13_partner_31 : decode cX13_partner 31 = .ok (.iconst 5, 1) := by decide +kernel
theorem dX13_partner_32 : decode cX13_partner 32 = .ok (.if_icmp .gt 17, 3) := by decide +kernel
theorem dX13_partner_35 : decode cX13_partner 35 = .ok (.iload_n 3, 1) := by decide +kernel
theorem dX13_partner_36 : decode cX13_partner 36 = .ok (.ifCond .eq 19, 3) := by decide +kernel
theorem dX13_partner_39 : decode cX13_partner 39 = .ok (.iload_n 2, 1) := by decide +kernel
theorem dX13_partner_40 : decode cX13_partner 40 = .ok (.ifCond .lt 9, 3) := by decide +kernel
theorem dX13_partner_43 : decode cX13_partner 43 = .ok (.iload_n 2, 1) := by decide +kernel
theorem dX13_partner_44 : decode cX13_partner 44 = .ok (.ldc 71, 2) := by decide +kernel
theorem dX13_partner_46 : decode cX13_partner 46 = .ok (.if_icmp .le 9, 3) := by decide +kernel
theorem dX13_partner_49 : decode cX13_partner 49 = .ok (.aload_n 0, 1) := by decide +kernel
theorem dX13_partner_50 : decode cX13_partner 50 = .ok (.iconst 2, 1) := by decide +kernel
theorem dX13_partner_51 : decode cX13_partner 51 = .ok (.invokevirtual 73, 3) := by decide +kernel
theorem dX13_partner_54 : decode cX13_partner 54 = .ok (.ireturn, 1) := by decide +kernel
theorem dX13_partner_55 : decode cX13_partner 55 = .ok (.iload_n 1, 1) := by decide +kernel
theorem dX13_partner_56 : decode cX13_partner 56 = .ok (.iconst 5, 1) := by decide +kernel
theorem dX13_partner_57 : decode cX13_partner 57 = .ok (.if_icmp .ne 17, 3) := by decide +kernel
theorem dX13_partner_60 : decode cX13_partner 60 = .ok (.aload_n 0, 1) := by decide +kernel
theorem dX13_partner_61 : decode cX13_partner 61 = .ok (.iload_n 2, 1) := by decide +kernel
theorem dX13_partner_62 : decode cX13_partner 62 = .ok (.invokevirtual 64, 3) := by decide +kernel
theorem dX13_partner_65 : decode cX13_partner 65 = .ok (.ifCond .ne 9, 3) := by decide +kernel
theorem dX13_partner_68 : decode cX13_partner 68 = .ok (.aload_n 0, 1) := by decide +kernel
theorem dX13_partner_69 : decode cX13_partner 69 = .ok (.iconst 1, 1) := by decide +kernel
theorem dX13_partner_70 : decode cX13_partner 70 = .ok (.invokevirtual 73, 3) := by decide +kernel
theorem dX13_partner_73 : decode cX13_partner 73 = .ok (.ireturn, 1) := by decide +kernel
theorem dX13_partner_74 : decode cX13_partner 74 = .ok (.aload_n 0, 1) := by decide +kernel
theorem dX13_partner_75 : decode cX13_partner 75 = .ok (.getfield 89, 3) := by decide +kernel
theorem dX13_partner_78 : decode cX13_partner 78 = .ok (.bipush 40, 2) := by decide +kernel
theorem dX13_partner_80 : decode cX13_partner 80 = .ok (.if_icmp .ne 10, 3) := by decide +kernel
theorem dX13_partner_83 : decode cX13_partner 83 = .ok (.aload_n 0, 1) := by decide +kernel
theorem dX13_partner_84 : decode cX13_partner 84 = .ok (.bipush 9, 2) := by decide +kernel
theorem dX13_partner_86 : decode cX13_partner 86 = .ok (.invokevirtual 73, 3) := by decide +kernel
theorem dX13_partner_89 : decode cX13_partner 89 = .ok (.ireturn, 1) := by decide +kernel
theorem dX13_partner_90 : decode cX13_partner 90 = .ok (.aload_n 0, 1) := by decide +kernel
theorem dX13_partner_91 : decode cX13_partner 91 = .ok (.getfield 20, 3) := by decide +kernel
theorem dX13_partner_94 : decode cX13_partner 94 = .ok (.aload_n 0, 1) := by decide +kernel
theorem dX13_partner_95 : decode cX13_partner 95 = .ok (.getfield 89, 3) := by decide +kernel
theorem dX13_partner_98 : decode cX13_partner 98 = .ok (.iload_n 1, 1) := by decide +kernel
theorem dX13_partner_99 : decode cX13_partner 99 = .ok (.iastore, 1) := by decide +kernel
theorem dX13_partner_100 : decode cX13_partner 100 = .ok (.aload_n 0, 1) := by decide +kernel
theorem dX13_partner_101 : decode cX13_partner 101 = .ok (.getfield 24, 3) := by decide +kernel
theorem dX13_partner_104 : decode cX13_partner 104 = .ok (.aload_n 0, 1) := by decide +kernel
theorem dX13_partner_105 : decode cX13_partner 105 = .ok (.getfield 89, 3) := by decide +kernel
theorem dX13_partner_108 : decode cX13_partner 108 = .ok (.iload_n 2, 1) := by decide +kernel
theorem dX13_partner_109 : decode cX13_partner 109 = .ok (.iastore, 1) := by decide +kernel
theorem dX13_partner_110 : decode cX13_partner 110 = .ok (.aload_n 0, 1) := by decide +kernel
theorem dX13_partner_111 : decode cX13_partner 111 = .ok (.dup, 1) := by decide +kernel
theorem dX13_partner_112 : decode cX13_partner 112 = .ok (.getfield 89, 3) := by decide +kernel
theorem dX13_partner_115 : decode cX13_partner 115 = .ok (.iconst 1, 1) := by decide +kernel
theorem dX13_partner_116 : decode cX13_partner 116 = .ok (.iadd, 1) := by decide +kernel
theorem dX13_partner_117 : decode cX13_partner 117 = .ok (.putfield 89, 3) := by decide +kernel
theorem dX13_partner_120 : decode cX13_partner 120 = .ok (.aload_n 0, 1) := by decide +kernel
theorem dX13_partner_121 : decode cX13_partner 121 = .ok (.aload_n 0, 1) := by decide +kernel
theorem dX13_partner_122 : decode cX13_partner 122 = .ok (.getfield 89, 3) := by decide +kernel
theorem dX13_partner_125 : decode cX13_partner 125 = .ok (.iconst 1, 1) := by decide +kernel
theorem dX13_partner_126 : decode cX13_partner 126 = .ok (.isub, 1) := by decide +kernel
theorem dX13_partner_127 : decode cX13_partner 127 = .ok (.invokevirtual 86, 3) := by decide +kernel
theorem dX13_partner_130 : decode cX13_partner 130 = .ok (.ireturn, 1) := by decide +kernel
theorem dX13_rule_0 : decode cX13_rule 0 = .ok (.aload_n 0, 1) := by decide +kernel
theorem dX13_rule_1 : decode cX13_rule 1 = .ok (.iconst 0, 1) := by decide +kernel
theorem dX13_rule_2 : decode cX13_rule 2 = .ok (.putfield 55, 3) := by decide +kernel
theorem dX13_rule_5 : decode cX13_rule 5 = .ok (.aload_n 0, 1) := by decide +kernel
theorem dX13_rule_6 : decode cX13_rule 6 = .ok (.iload_n 1, 1) := by decide +kernel
theorem dX13_rule_7 : decode cX13_rule 7 = .ok (.invokevirtual 64, 3) := by decide +kernel
theorem dX13_rule_10 : decode cX13_rule 10 = .ok (.ifCond .ne 9, 3) := by decide +kernel
theorem dX13_rule_13 : decode cX13_rule 13 = .ok (.aload_n 0, 1) := by decide +kernel
theorem dX13_rule_14 : decode cX13_rule 14 = .ok (.iconst 1, 1) := by decide +kernel
theorem dX13_rule_15 : decode cX13_rule 15 = .ok (.invokevirtual 73, 3) := by decide +kernel
theorem dX13_rule_18 : decode cX13_rule 18 = .ok (.ireturn, 1) := by decide +kernel
theorem dX13_rule_19 : decode cX13_rule 19 = .ok (.aload_n 0, 1) := by decide +kernel
theorem dX13_rule_20 : decode cX13_rule 20 = .ok (.getfield 12, 3) := by decide +kernel
theorem dX13_rule_23 : decode cX13_rule 23 = .ok (.iload_n 1, 1) := by decide +kernel
theorem dX13_rule_24 : decode cX13_rule 24 = .ok (.aaload, 1) := by decide +kernel
theorem dX13_rule_25 : decode cX13_rule 25 = .ok (.astore_n 3, 1) := by decide +kernel
theorem dX13_rule_26 : decode cX13_rule 26 = .ok (.aload_n 3, 1) := by decide +kernel
theorem dX13_rule_27 : decode cX13_rule 27 = .ok (.iload_n 2, 1) := by decide +kernel
theorem dX13_rule_28 : decode cX13_rule 28 = .ok (.invokevirtual 131, 3) := by decide +kernel
theorem dX13_rule_31 : decode cX13_rule 31 = .ok (.ifCond .eq 40, 3) := by decide +kernel
theorem dX13_rule_34 : decode cX13_rule 34 = .ok (.aload_n 3, 1) := by decide +kernel
theorem dX13_rule_35 : decode cX13_rule 35 = .ok (.getfield 142, 3) := by decide +kernel
theorem dX13_rule_38 : decode cX13_rule 38 = .ok (.ifCond .ne 14, 3) := by decide +kernel
theorem dX13_rule_41 : decode cX13_rule 41 = .ok (.iload_n 2, 1) := by decide +kernel
theorem dX13_rule_42 : decode cX13_rule 42 = .ok (.aload_n 3, 1) := by decide +kernel
theorem dX13_rule_43 : decode cX13_rule 43 = .ok (.getfield 77, 3) := by decide +kernel
theorem dX13_rule_46 : decode cX13_rule 46 = .ok (.if_icmp .ne 25, 3) := by decide +kernel
theorem dX13_rule_49 : decode cX13_rule 49 = .ok (.goto 18, 3) := by decide +kernel
theorem dX13_rule_52 : decode cX13_rule 52 = .ok (.iload_n 2, 1) := by decide +kernel
theorem dX13_rule_53 : decode cX13_rule 53 = .ok (.aload_n 3, 1) := by decide +kernel
theorem dX13_rule_54 : decode cX13_rule 54 = .ok (.getfield 145, 3) := by decide +kernel
theorem dX13_rule_57 : decode cX13_rule 57 = .ok (.aload_n 3, 1) := by decide +kernel
theorem dX13_rule_58 : decode cX13_rule 58 = .ok (.getfield 142, 3) := by decide +kernel
theorem dX13_rule_61 : decode cX13_rule 61 = .ok (.iconst 1, 1) := by decide +kernel
theorem dX13_rule_62 : decode cX13_rule 62 = .ok (.isub, 1) := by decide +kernel
theorem dX13_rule_63 : decode cX13_rule 63 = .ok (.iaload, 1) := by decide +kernel
theorem dX13_rule_64 : decode cX13_rule 64 = .ok (.if_icmp .le 7, 3) := by decide +kernel
theorem dX13_rule_67 : decode cX13_rule 67 = .ok (.iconst 1, 1) := by decide +kernel
theorem dX13_rule_68 : decode cX13_rule 68 = .ok (.goto 4, 3) := by decide +kernel
theorem dX13_rule_71 : decode cX13_rule 71 = .ok (.iconst 0, 1) := by decide +kernel
theorem dX13_rule_72 : decode cX13_rule 72 = .ok (.istore 4, 2) := by decide +kernel
theorem dX13_rule_74 : decode cX13_rule 74 = .ok (.iload 4, 2) := by decide +kernel
theorem dX13_rule_76 : decode cX13_rule 76 = .ok (.ifCond .ne 9, 3) := by decide +kernel
theorem dX13_rule_79 : decode cX13_rule 79 = .ok (.aload_n 0, 1) := by decide +kernel
theorem dX13_rule_80 : decode cX13_rule 80 = .ok (.iconst 3, 1) := by decide +kernel
theorem dX13_rule_81 : decode cX13_rule 81 = .ok (.invokevirtual 73, 3) := by decide +kernel
theorem dX13_rule_84 : decode cX13_rule 84 = .ok (.ireturn, 1) := by decide +kernel
theorem dX13_rule_85 : decode cX13_rule 85 = .ok (.aload_n 3, 1) := by decide +kernel
theorem dX13_rule_86 : decode cX13_rule 86 = .ok (.getfield 142, 3) := by decide +kernel
theorem dX13_rule_89 : decode cX13_rule 89 = .ok (.bipush 16, 2) := by decide +kernel
theorem dX13_rule_91 : decode cX13_rule 91 = .ok (.if_icmp .ne 10, 3) := by decide +kernel
theorem dX13_rule_94 : decode cX13_rule 94 = .ok (.aload_n 0, 1) := by decide +kernel
theorem dX13_rule_95 : decode cX13_rule 95 = .ok (.bipush 9, 2) := by decide +kernel
theorem dX13_rule_97 : decode cX13_rule 97 = .ok (.invokevirtual 73, 3) := by decide +kernel
theorem dX13_rule_100 : decode cX13_rule 100 = .ok (.ireturn, 1) := by decide +kernel
theorem dX13_rule_101 : decode cX13_rule 101 = .ok (.bipush 24, 2) := by decide +kernel
theorem dX13_rule_103 : decode cX13_rule 103 = .ok (.istore 5, 2) := by decide +kernel
theorem dX13_rule_105 : decode cX13_rule 105 = .ok (.iconst 0, 1) := by decide +kernel
theorem dX13_rule_106 : decode cX13_rule 106 = .ok (.istore 6, 2) := by decide +kernel
theorem dX13_rule_108 : decode cX13_rule 108 = .ok (.iload 6, 2) := by decide +kernel
theorem dX13_rule_110 : decode cX13_rule 110 = .ok (.iload 5, 2) := by decide +kernel
theorem dX13_rule_112 : decode cX13_rule 112 = .ok (.if_icmp .ge 52, 3) := by decide +kernel
theorem dX13_rule_115 : decode cX13_rule 115 = .ok (.aload_n 3, 1) := by decide +kernel
theorem dX13_rule_116 : decode cX13_rule 116 = .ok (.getfield 148, 3) := by decide +kernel
theorem dX13_rule_119 : decode cX13_rule 119 = .ok (.iload 5, 2) := by decide +kernel
theorem dX13_rule_121 : decode cX13_rule 121 = .ok (.aload_n 3, 1) := by decide +kernel
theorem dX13_rule_122 : decode cX13_rule 122 = .ok (.getfield 142, 3) := by decide +kernel
theorem dX13_rule_125 : decode cX13_rule 125 = .ok (.imul, 1) := by decide +kernel
theorem dX13_rule_126 : decode cX13_rule 126 = .ok (.iload 6, 2) := by decide +kernel
theorem dX13_rule_128 : decode cX13_rule 128 = .ok (.iadd, 1) := by decide +kernel
theorem dX13_rule_129 : decode cX13_rule 129 = .ok (.aload_n 3, 1) := by decide +kernel
theorem dX13_rule_130 : decode cX13_rule 130 = .ok (.getfield 142, 3) := by decide +kernel
theorem dX13_rule_133 : decode cX13_rule 133 = .ok (.ifCond .ne 7, 3) := by decide +kernel
theorem dX13_rule_136 : decode cX13_rule 136 = .ok (.iconst 0, 1) := by decide +kernel
theorem dX13_rule_137 : decode cX13_rule 137 = .ok (.goto 20, 3) := by decide +kernel
theorem dX13_rule_140 : decode cX13_rule 140 = .ok (.aload_n 3, 1) := by decide +kernel
theorem dX13_rule_141 : decode cX13_rule 141 = .ok (.getfield 148, 3) := by decide +kernel
theorem dX13_rule_144 : decode cX13_rule 144 = .ok (.iload 5, 2) := by decide +kernel
theorem dX13_rule_146 : decode cX13_rule 146 = .ok (.aload_n 3, 1) := by decide +kernel
theorem dX13_rule_147 : decode cX13_rule 147 = .ok (.getfield 142, 3) := by decide +kernel
theorem dX13_rule_150 : decode cX13_rule 150 = .ok (.iconst 1, 1) := by decide +kernel
theorem dX13_rule_151 : decode cX13_rule 151 = .ok (.isub, 1) := by decide +kernel
theorem dX13_rule_152 : decode cX13_rule 152 = .ok (.imul, 1) := by decide +kernel
theorem dX13_rule_153 : decode cX13_rule 153 = .ok (.iload 6, 2) := by decide +kernel
theorem dX13_rule_155 : decode cX13_rule 155 = .ok (.iadd, 1) := by decide +kernel
theorem dX13_rule_156 : decode cX13_rule 156 = .ok (.iaload, 1) := by decide +kernel
theorem dX13_rule_157 : decode cX13_rule 157 = .ok (.iastore, 1) := by decide +kernel
theorem dX13_rule_158 : decode cX13_rule 158 = .ok (.iinc 6 1, 3) := by decide +kernel
theorem dX13_rule_161 : decode cX13_rule 161 = .ok (.goto (-53), 3) := by decide +kernel
theorem dX13_rule_164 : decode cX13_rule 164 = .ok (.aload_n 3, 1) := by decide +kernel
theorem dX13_rule_165 : decode cX13_rule 165 = .ok (.getfield 151, 3) := by decide +kernel
theorem dX13_rule_168 : decode cX13_rule 168 = .ok (.aload_n 3, 1) := by decide +kernel
theorem dX13_rule_169 : decode cX13_rule 169 = .ok (.getfield 142, 3) := by decide +kernel
theorem dX13_rule_172 : decode cX13_rule 172 = .ok (.aload_n 3, 1) := by decide +kernel
theorem dX13_rule_173 : decode cX13_rule 173 = .ok (.getfield 142, 3) := by decide +kernel
theorem dX13_rule_176 : decode cX13_rule 176 = .ok (.ifCond .ne 7, 3) := by decide +kernel
theorem dX13_rule_179 : decode cX13_rule 179 = .ok (.iconst 0, 1) := by decide +kernel
theorem dX13_rule_180 : decode cX13_rule 180 = .ok (.goto 14, 3) := by decide +kernel
theorem dX13_rule_183 : decode cX13_rule 183 = .ok (.aload_n 3, 1) := by decide +kernel
theorem dX13_rule_184 : decode cX13_rule 184 = .ok (.getfield 151, 3) := by decide +kernel
theorem dX13_rule_187 : decode cX13_rule 187 = .ok (.aload_n 3, 1) := by decide +kernel
theorem dX13_rule_188 : decode cX13_rule 188 = .ok (.getfield 142, 3) := by decide +kernel
theorem dX13_rule_191 : decode cX13_rule 191 = .ok (.iconst 1, 1) := by decide +kernel
theorem dX13_rule_192 : decode cX13_rule 192 = .ok (.isub, 1) := by decide +kernel
theorem dX13_rule_193 : decode cX13_rule 193 = .ok (.iaload, 1) := by decide +kernel
theorem dX13_rule_194 : decode cX13_rule 194 = .ok (.iastore, 1) := by decide +kernel
theorem dX13_rule_195 : decode cX13_rule 195 = .ok (.aload_n 3, 1) := by decide +kernel
theorem dX13_rule_196 : decode cX13_rule 196 = .ok (.getfield 145, 3) := by decide +kernel
theorem dX13_rule_199 : decode cX13_rule 199 = .ok (.aload_n 3, 1) := by decide +kernel
theorem dX13_rule_200 : decode cX13_rule 200 = .ok (.getfield 142, 3) := by decide +kernel
theorem dX13_rule_203 : decode cX13_rule 203 = .ok (.iload_n 2, 1) := by decide +kernel
theorem dX13_rule_204 : decode cX13_rule 204 = .ok (.iastore, 1) := by decide +kernel
theorem dX13_rule_205 : decode cX13_rule 205 = .ok (.aload_n 3, 1) := by decide +kernel
theorem dX13_rule_206 : decode cX13_rule 206 = .ok (.dup, 1) := by decide +kernel
theorem dX13_rule_207 : decode cX13_rule 207 = .ok (.getfield 142, 3) := by decide +kernel
theorem dX13_rule_210 : decode cX13_rule 210 = .ok (.iconst 1, 1) := by decide +kernel
theorem dX13_rule_211 : decode cX13_rule 211 = .ok (.iadd, 1) := by decide +kernel
theorem dX13_rule_212 : decode cX13_rule 212 = .ok (.putfield 142, 3) := by decide +kernel
theorem dX13_rule_215 : decode cX13_rule 215 = .ok (.aload_n 0, 1) := by decide +kernel
theorem dX13_rule_216 : decode cX13_rule 216 = .ok (.aload_n 3, 1) := by decide +kernel
theorem dX13_rule_217 : decode cX13_rule 217 = .ok (.getfield 142, 3) := by decide +kernel
theorem dX13_rule_220 : decode cX13_rule 220 = .ok (.invokevirtual 86, 3) := by decide +kernel
theorem dX13_rule_223 : decode cX13_rule 223 = .ok (.ireturn, 1) := by decide +kernel
theorem dX13_settled_0 : decode cX13_settled 0 = .ok (.iconst 0, 1) := by decide +kernel
theorem dX13_settled_1 : decode cX13_settled 1 = .ok (.istore_n 3, 1) := by decide +kernel
theorem dX13_settled_2 : decode cX13_settled 2 = .ok (.iconst 0, 1) := by decide +kernel
theorem dX13_settled_3 : decode cX13_settled 3 = .ok (.istore 4, 2) := by decide +kernel
theorem dX13_settled_5 : decode cX13_settled 5 = .ok (.iload 4, 2) := by decide +kernel
theorem dX13_settled_7 : decode cX13_settled 7 = .ok (.aload_n 0, 1) := by decide +kernel
theorem dX13_settled_8 : decode cX13_settled 8 = .ok (.getfield 193, 3) := by decide +kernel
theorem dX13_settled_11 : decode cX13_settled 11 = .ok (.if_icmp .ge 99, 3) := by decide +kernel
theorem dX13_settled_14 : decode cX13_settled 14 = .ok (.aload_n 0, 1) := by decide +kernel
theorem dX13_settled_15 : decode cX13_settled 15 = .ok (.getfield 199, 3) := by decide +kernel
theorem dX13_settled_18 : decode cX13_settled 18 = .ok (.iload 4, 2) := by decide +kernel
theorem dX13_settled_20 : decode cX13_settled 20 = .ok (.iaload, 1) := by decide +kernel
theorem dX13_settled_21 : decode cX13_settled 21 = .ok (.iload_n 1, 1) := by decide +kernel
theorem dX13_settled_22 : decode cX13_settled 22 = .ok (.if_icmp .lt 40, 3) := by decide +kernel
theorem dX13_settled_25 : decode cX13_settled 25 = .ok (.aload_n 0, 1) := by decide +kernel
theorem dX13_settled_26 : decode cX13_settled 26 = .ok (.getfield 199, 3) := by decide +kernel
theorem dX13_settled_29 : decode cX13_settled 29 = .ok (.iload 4, 2) := by decide +kernel
theorem dX13_settled_31 : decode cX13_settled 31 = .ok (.iaload, 1) := by decide +kernel
theorem dX13_settled_32 : decode cX13_settled 32 = .ok (.iload_n 2, 1) := by decide +kernel
theorem dX13_settled_33 : decode cX13_settled 33 = .ok (.if_icmp .gt 29, 3) := by decide +kernel
theorem dX13_settled_36 : decode cX13_settled 36 = .ok (.aload_n 0, 1) := by decide +kernel
theorem dX13_settled_37 : decode cX13_settled 37 = .ok (.getfield 307, 3) := by decide +kernel
theorem dX13_settled_40 : decode cX13_settled 40 = .ok (.aload_n 0, 1) := by decide +kernel
theorem dX13_settled_41 : decode cX13_settled 41 = .ok (.getfield 196, 3) := by decide +kernel
theorem dX13_settled_44 : decode cX13_settled 44 = .ok (.iload 4, 2) := by decide +kernel
theorem dX13_settled_46 : decode cX13_settled 46 = .ok (.iaload, 1) := by decide +kernel
theorem dX13_settled_47 : decode cX13_settled 47 = .ok (.dup2, 1) := by decide +kernel
theorem dX13_settled_48 : decode cX13_settled 48 = .ok (.laload, 1) := by decide +kernel
theorem dX13_settled_49 : decode cX13_settled 49 = .ok (.aload_n 0, 1) := by decide +kernel
theorem dX13_settled_50 : decode cX13_settled 50 = .ok (.getfield 202, 3) := by decide +kernel
theorem dX13_settled_53 : decode cX13_settled 53 = .ok (.iload 4, 2) := by decide +kernel
theorem dX13_settled_55 : decode cX13_settled 55 = .ok (.iaload, 1) := by decide +kernel
theorem dX13_settled_56 : decode cX13_settled 56 = .ok (.i2l, 1) := by decide +kernel
theorem dX13_settled_57 : decode cX13_settled 57 = .ok (.ladd, 1) := by decide +kernel
theorem dX13_settled_58 : decode cX13_settled 58 = .ok (.lastore, 1) := by decide +kernel
theorem dX13_settled_59 : decode cX13_settled 59 = .ok (.goto 45, 3) := by decide +kernel
theorem dX13_settled_62 : decode cX13_settled 62 = .ok (.aload_n 0, 1) := by decide +kernel
theorem dX13_settled_63 : decode cX13_settled 63 = .ok (.getfield 196, 3) := by decide +kernel
theorem dX13_settled_66 : decode cX13_settled 66 = .ok (.iload_n 3, 1) := by decide +kernel
theorem dX13_settled_67 : decode cX13_settled 67 = .ok (.aload_n 0, 1) := by decide +kernel
theorem dX13_settled_68 : decode cX13_settled 68 = .ok (.getfield 196, 3) := by decide +kernel
theorem dX13_settled_71 : decode cX13_settled 71 = .ok (.iload 4, 2) := by decide +kernel
theorem dX13_settled_73 : decode cX13_settled 73 = .ok (.iaload, 1) := by decide +kernel
theorem dX13_settled_74 : decode cX13_settled 74 = .ok (.iastore, 1) := by decide +kernel
theorem dX13_settled_75 : decode cX13_settled 75 = .ok (.aload_n 0, 1) := by decide +kernel
theorem dX13_settled_76 : decode cX13_settled 76 = .ok (.getfield 199, 3) := by decide +kernel
theorem dX13_settled_79 : decode cX13_settled 79 = .ok (.iload_n 3, 1) := by decide +kernel
theorem dX13_settled_80 : decode cX13_settled 80 = .ok (.aload_n 0, 1) := by decide +kernel
theorem dX13_settled_81 : decode cX13_settled 81 = .ok (.getfield 199, 3) := by decide +kernel
theorem dX13_settled_84 : decode cX13_settled 84 = .ok (.iload 4, 2) := by decide +kernel
theorem dX13_settled_86 : decode cX13_settled 86 = .ok (.iaload, 1) := by decide +kernel
theorem dX13_settled_87 : decode cX13_settled 87 = .ok (.iastore, 1) := by decide +kernel
theorem dX13_settled_88 : decode cX13_settled 88 = .ok (.aload_n 0, 1) := by decide +kernel
theorem dX13_settled_89 : decode cX13_settled 89 = .ok (.getfield 202, 3) := by decide +kernel
theorem dX13_settled_92 : decode cX13_settled 92 = .ok (.iload_n 3, 1) := by decide +kernel
theorem dX13_settled_93 : decode cX13_settled 93 = .ok (.aload_n 0, 1) := by decide +kernel
theorem dX13_settled_94 : decode cX13_settled 94 = .ok (.getfield 202, 3) := by decide +kernel
theorem dX13_settled_97 : decode cX13_settled 97 = .ok (.iload 4, 2) := by decide +kernel
theorem dX13_settled_99 : decode cX13_settled 99 = .ok (.iaload, 1) := by decide +kernel
theorem dX13_settled_100 : decode cX13_settled 100 = .ok (.iastore, 1) := by decide +kernel
theorem dX13_settled_101 : decode cX13_settled 101 = .ok (.iinc 3 1, 3) := by decide +kernel
theorem dX13_settled_104 : decode cX13_settled 104 = .ok (.iinc 4 1, 3) := by decide +kernel
theorem dX13_settled_107 : decode cX13_settled 107 = .ok (.goto (-102), 3) := by decide +kernel
theorem dX13_settled_110 : decode cX13_settled 110 = .ok (.aload_n 0, 1) := by decide +kernel
theorem dX13_settled_111 : decode cX13_settled 111 = .ok (.iload_n 3, 1) := by decide +kernel
theorem dX13_settled_112 : decode cX13_settled 112 = .ok (.putfield 193, 3) := by decide +kernel
theorem dX13_settled_115 : decode cX13_settled 115 = .ok (.iconst 0, 1) := by decide +kernel
theorem dX13_settled_116 : decode cX13_settled 116 = .ok (.istore 4, 2) := by decide +kernel
theorem dX13_settled_118 : decode cX13_settled 118 = .ok (.iload 4, 2) := by decide +kernel
theorem dX13_settled_120 : decode cX13_settled 120 = .ok (.aload_n 0, 1) := by decide +kernel
theorem dX13_settled_121 : decode cX13_settled 121 = .ok (.getfield 68, 3) := by decide +kernel
theorem dX13_settled_124 : decode cX13_settled 124 = .ok (.if_icmp .ge 26, 3) := by decide +kernel
theorem dX13_settled_127 : decode cX13_settled 127 = .ok (.aload_n 0, 1) := by decide +kernel
theorem dX13_settled_128 : decode cX13_settled 128 = .ok (.getfield 307, 3) := by decide +kernel
theorem dX13_settled_131 : decode cX13_settled 131 = .ok (.iload 4, 2) := by decide +kernel
theorem dX13_settled_133 : decode cX13_settled 133 = .ok (.dup2, 1) := by decide +kernel
theorem dX13_settled_134 : decode cX13_settled 134 = .ok (.laload, 1) := by decide +kernel
theorem dX13_settled_135 : decode cX13_settled 135 = .ok (.aload_n 0, 1) := by decide +kernel
theorem dX13_settled_136 : decode cX13_settled 136 = .ok (.getfield 259, 3) := by decide +kernel
theorem dX13_settled_139 : decode cX13_settled 139 = .ok (.iload 4, 2) := by decide +kernel
theorem dX13_settled_141 : decode cX13_settled 141 = .ok (.laload, 1) := by decide +kernel
theorem dX13_settled_142 : decode cX13_settled 142 = .ok (.ladd, 1) := by decide +kernel
theorem dX13_settled_143 : decode cX13_settled 143 = .ok (.lastore, 1) := by decide +kernel
theorem dX13_settled_144 : decode cX13_settled 144 = .ok (.iinc 4 1, 3) := by decide +kernel
theorem dX13_settled_147 : decode cX13_settled 147 = .ok (.goto (-29), 3) := by decide +kernel
theorem dX13_settled_150 : decode cX13_settled 150 = .ok (.iconst 0, 1) := by decide +kernel
theorem dX13_settled_151 : decode cX13_settled 151 = .ok (.istore 4, 2) := by decide +kernel
theorem dX13_settled_153 : decode cX13_settled 153 = .ok (.iload 4, 2) := by decide +kernel
theorem dX13_settled_155 : decode cX13_settled 155 = .ok (.aload_n 0, 1) := by decide +kernel
theorem dX13_settled_156 : decode cX13_settled 156 = .ok (.getfield 256, 3) := by decide +kernel
theorem dX13_settled_159 : decode cX13_settled 159 = .ok (.if_icmp .ge 25, 3) := by decide +kernel
theorem dX13_settled_162 : decode cX13_settled 162 = .ok (.aload_n 0, 1) := by decide +kernel
theorem dX13_settled_163 : decode cX13_settled 163 = .ok (.dup, 1) := by decide +kernel
theorem dX13_settled_164 : decode cX13_settled 164 = .ok (.getfield 364, 3) := by decide +kernel
theorem dX13_settled_167 : decode cX13_settled 167 = .ok (.aload_n 0, 1) := by decide +kernel
theorem dX13_settled_168 : decode cX13_settled 168 = .ok (.getfield 304, 3) := by decide +kernel
theorem dX13_settled_171 : decode cX13_settled 171 = .ok (.iload 4, 2) := by decide +kernel
theorem dX13_settled_173 : decode cX13_settled 173 = .ok (.laload, 1) := by decide +kernel
theorem dX13_settled_174 : decode cX13_settled 174 = .ok (.ladd, 1) := by decide +kernel
theorem dX13_settled_175 : decode cX13_settled 175 = .ok (.putfield 364, 3) := by decide +kernel
theorem dX13_settled_178 : decode cX13_settled 178 = .ok (.iinc 4 1, 3) := by decide +kernel
theorem dX13_settled_181 : decode cX13_settled 181 = .ok (.goto (-28), 3) := by decide +kernel
theorem dX13_settled_184 : decode cX13_settled 184 = .ok (.return_, 1) := by decide +kernel
set_option maxHeartbeats 4000000 in
set_option maxRecDepth 100000 in
theorem r_X13_partner (l : Launch) (D : va_G) (cy : Nat → ClassId) (K : Kp) (L : List Nat) (M : Hp) (sz : Nat) (za : Nat) (z0 : Int32) (z1 : Nat) (z2 : Nat) (z3 : Nat) (z4 : Int32) (z5 : Int32) (z6 : Nat) (z7 : Nat) (z8 : Nat) (z9 : Nat) (z10 : Nat) (z11 : Nat) (z12 : Nat) (z13 : Nat) (z14 : Nat) (z15 : Nat) (z16 : Nat) (z17 : Nat) (z18 : Int32) (z19 : Nat) (k1 : Int32) (k2 : Int32) (hW : WOM cy K L M) (i1 : isk K L z1 23 8) (b2 : z2 ≤ 8) (b3 : z3 ≤ 40) (i6 : isk K L z6 47 40) (i7 : isk K L z7 48 40) (i8 : isk K L z8 49 8) (i9 : isk K L z9 50 8) (b10 : z10 ≤ 8) (i11 : isk K L z11 32 24) (i12 : isk K L z12 14 24) (i13 : isk K L z13 15 24) (i14 : isk K L z14 15 24) (i15 : isk K L z15 15 24) (b16 : z16 ≤ 24) (i17 : isk K L z17 14 24) (i19 : isk K L z19 15 25) : Met l yX13_partner (wsM yX13_partner cX13_partner 4 (some .int)) ({ frames := 1, cells := 0, slots := 0, locals := 21 }) (va_Pc [.ref za, .int k1, .int k2] (PG D cy [(za, .inr (13, [.int z0, .ref z1, .int (nI z2), .int (nI z3), .int z4, .int z5, .ref z6, .ref z7, .ref z8, .ref z9, .int (nI z10), .ref z11, .ref z12, .ref z13, .ref z14, .ref z15, .int (nI z16), .ref z17, .int z18, .ref z19]))] L M sz)) (va_Qi (fun (r : Int32) (M9 : Hp) => WOM cy K L M9 ∧ fr K L [47, 48] M M9 ∧ (True)) (fun M9 t => ∃ (w3 : Nat) (w4 : Int32) (w5 : Int32), w3 ≤ 40 ∧ PQ D [(za, .inr (13, [.int 0, .ref z1, .int (nI z2), .int (nI w3), .int w4, .int w5, .ref z6, .ref z7, .ref z8, .ref z9, .int (nI z10), .ref z11, .ref z12, .ref z13, .ref z14, .ref z15, .int (nI z16), .ref z17, .int z18, .ref z19]))] L M9 (va_A ([(za, .inr (13, [.int z0, .ref z1, .int (nI z2), .int (nI z3), .int z4, .int z5, .ref z6, .ref z7, .ref z8, .ref z9, .int (nI z10), .ref z11, .ref z12, .ref z13, .ref z14, .ref z15, .int (nI z16), .ref z17, .int z18, .ref z19]))] ++ va_pl L M) sz) t) (va_A ([(za, .inr (13, [.int z0, .ref z1, .int (nI z2), .int (nI z3), .int z4, .int z5, .ref z6, .ref z7, .ref z8, .ref z9, .int (nI z10), .ref z11, .ref z12, .ref z13, .ref z14, .ref z15, .int (nI z16), .ref z17, .int z18, .ref z19]))] ++ va_pl L M) sz)) 0 0 (va_A ([(za, .inr (13, [.int z0, .ref z1, .int (nI z2), .int (nI z3), .int z4, .int z5, .ref z6, .ref z7, .ref z8, .ref z9, .int (nI z10), .ref z11, .ref z12, .ref z13, .ref z14, .ref z15, .int (nI z16), .ref z17, .int z18, .ref z19]))] ++ va_pl L M) sz) := by
  refine Met.ofW (cc := cX13_partner) (maxL := 4) (ret := (some .int)) (by decide) rfl ?_
  intro p e s m args below meth c s₁ B hml hv
  obtain ⟨rfl, hsz, hP, hK, hD0, hN⟩ := hv
  have hx := B.exec
  have hb := B.bytes
  have hr := B.returns
  have hts := atoms_spec (ws := (wsM yX13_partner cX13_partner 4 (some .int))) B.pre
  have hg : ∀ w ∈ lw_good, w.before _ s = true := fun w h => hts w (List.mem_cons_of_mem _ h)
  have hown : s.vm.findClass RX13 = some m.cls := findClass_of_methodNamed B.named
  have hlocks := B.notSynchronized
  subst hsz
  have hD := hD0.self (sz := s.heap.size)
  generalize hAe : va_A ([(za, .inr (13, [.int z0, .ref z1, .int (nI z2), .int (nI z3), .int z4, .int z5, .ref z6, .ref z7, .ref z8, .ref z9, .int (nI z10), .ref z11, .ref z12, .ref z13, .ref z14, .ref z15, .int (nI z16), .ref z17, .int z18, .ref z19]))] ++ va_pl L M) s.heap.size = A at hD ⊢
  have hA : ∀ q : Nat, s.heap.size ≤ q → A q := fun q h => by rw [← hAe]; exact Or.inr h
  have hS : va_S A s.heap s.heap [] := va_S.rf
  have hl := lv_entry ([.ref za, .int k1, .int k2]) (n := 4) (Nat.le_of_ble_eq_true rfl)
  rw [lg_entry_eq]
  generalize (lg_sl ([.ref za, .int k1, .int k2]) ++ List.replicate (4 - (lg_sl ([.ref za, .int k1, .int k2])).length) Slot.unset).toArray = ls at hl ⊢
  refine W.nameQ (fun Q hQ => ?_)
  refine W.nameR (fun R hR => ?_)
  have hRf : 1 ≤ R.frames := by rw [hR]; exact Nat.le_of_ble_eq_true rfl
  have hRl : 21 ≤ R.locals := by rw [hR]; exact Nat.le_of_ble_eq_true rfl
  have hRc : 0 ≤ R.cells := by rw [hR]; exact Nat.le_of_ble_eq_true rfl
  have hRs : 0 ≤ R.slots := by rw [hR]; exact Nat.le_of_ble_eq_true rfl
  have hF : fr K L [47, 48] M M := fr.rf
  have hl : lv_has ls 4 [(0, .ref za), (1, .int k1), (2, .int k2)] := hl
  refine lv_aload_n hx hb dX13_partner_0 rfl (lv_at hl 0 rfl) ?_
  refine lv_iconst (v := 0) hx hb dX13_partner_1 (by decide) ?_
  refine va_put (D := D) (ci := 13) (v := .int 0) (ty := .int) (C := RX13) (T := TX13) (N := 20) hx hb hg inG13 tyX13 tyX13_ok nmX13 hown hK hP hD hS 0 rfl rfl 0 (by decide) (hg _ wd_720) (fun _ h9 => h9) rfl (by decide +kernel) rfl rfl (Nat.le_of_ble_eq_true rfl) dX13_partner_2 (fun H_1 locs hP hD hS => ?_)
  have hP : va_P D vwCl ([(za, .inr (13, [.int 0, .ref z1, .int (nI z2), .int (nI z3), .int z4, .int z5, .ref z6, .ref z7, .ref z8, .ref z9, .int (nI z10), .ref z11, .ref z12, .ref z13, .ref z14, .ref z15, .int (nI z16), .ref z17, .int z18, .ref z19]))] ++ va_pl L M) H_1 := hP
  have hD : va_D A ([(za, .inr (13, [.int 0, .ref z1, .int (nI z2), .int (nI z3), .int z4, .int z5, .ref z6, .ref z7, .ref z8, .ref z9, .int (nI z10), .ref z11, .ref z12, .ref z13, .ref z14, .ref z15, .int (nI z16), .ref z17, .int z18, .ref z19]))] ++ va_pl L M) := hD
  refine lv_iload_n hx hb dX13_partner_5 rfl (lv_at hl 1 rfl) ?_
  refine lv_iconst (v := 1) hx hb dX13_partner_6 (by decide) ?_
  refine lv_icmp_eq (tgt := 20) hx hb dX13_partner_7 (by decide) (fun c_2 => ?_) (fun c_2 => ?_)
  · have hz := rfl (a := 0)
    refine lv_iconst (v := 1) hx hb dX13_partner_20 (by decide) ?_
    refine lv_goto (tgt := 25) hx hb dX13_partner_21 (by decide) ?_
    refine lv_istore_n (lv' := [(3, .int 1), (0, .ref za), (1, .int k1), (2, .int k2)]) hx hb dX13_partner_25 rfl hl (by decide) rfl (fun ls hl => ?_)
    refine lv_iload_n hx hb dX13_partner_26 rfl (lv_at hl 2 rfl) ?_
    refine lv_if_lt (tgt := 49) hx hb dX13_partner_27 (by decide) (fun c_3 => absurd c_3 (by rw [c_2]; decide)) (fun c_3 => ?_)
    refine lv_iload_n hx hb dX13_partner_30 rfl (lv_at hl 2 rfl) ?_
    refine lv_iconst (v := 5) hx hb dX13_partner_31 (by decide) ?_
    refine lv_icmp_gt (tgt := 49) hx hb dX13_partner_32 (by decide) (fun c_4 => absurd c_4 (by rw [c_2]; decide)) (fun c_4 => ?_)
    refine lv_iload_n hx hb dX13_partner_35 rfl (lv_at hl 0 rfl) ?_
    refine lv_if_eq (tgt := 55) hx hb dX13_partner_36 (by decide) (fun c_5 => absurd c_5 (by decide)) (fun _ => ?_)
    refine lv_iload_n hx hb dX13_partner_39 rfl (lv_at hl 3 rfl) ?_
    refine lv_if_lt (tgt := 49) hx hb dX13_partner_40 (by decide) (fun c_6 => ?_) (fun c_6 => ?_)
    · have hz := rfl (a := 0)
      refine lv_aload_n hx hb dX13_partner_49 rfl (lv_at hl 1 rfl) ?_
      refine lv_iconst (v := 2) hx hb dX13_partner_50 (by decide) ?_
      have hPc := hP.sub (ws' := [(za, .inr (13, [.int 0, .ref z1, .int (nI z2), .int (nI z3), .int z4, .int z5, .ref z6, .ref z7, .ref z8, .ref z9, .int (nI z10), .ref z11, .ref z12, .ref z13, .ref z14, .ref z15, .int (nI z16), .ref z17, .int z18, .ref z19]))]) [0] rfl
      have hDc := hD.sub (ws' := [(za, .inr (13, [.int 0, .ref z1, .int (nI z2), .int (nI z3), .int z4, .int z5, .ref z6, .ref z7, .ref z8, .ref z9, .int (nI z10), .ref z11, .ref z12, .ref z13, .ref z14, .ref z15, .int (nI z16), .ref z17, .int z18, .ref z19]))]) [0] (by decide) rfl
      have hKc := hK.sub (tys' := []) [] rfl
      have hFc := va_free (wc := [(za, .inr (13, [.int 0, .ref z1, .int (nI z2), .int (nI z3), .int z4, .int z5, .ref z6, .ref z7, .ref z8, .ref z9, .int (nI z10), .ref z11, .ref z12, .ref z13, .ref z14, .ref z15, .int (nI z16), .ref z17, .int z18, .ref z19]))]) hD hS hA [0] rfl
      refine va_calli (va_runV (As := [.int 2]) (rest := []) ⟨hx, hb, hml, hown, hg⟩ (m_refused l D H_1.size za 0 z1 (nI z2) (nI z3) z4 z5 z6 z7 z8 z9 (nI z10) z11 z12 z13 z14 z15 (nI z16) z17 z18 z19 2) (cwV 1 hg (gV wd_725 wd_726 wd_727 wd_717 wd_728) rfl rfl rfl (by decide +kernel) ⟨(Nat.le_trans (Nat.le_of_ble_eq_true rfl) hRf), (Nat.le_trans (Nat.le_of_ble_eq_true rfl) hRl)⟩) ⟨Pr.blind, va_recv hK hP (ci := 13) (q0 := 0) rfl rfl, fun U hU hW => ⟨rfl, Pr.at hPc hKc hDc hN hU hW⟩⟩ rfl rfl hl.1 rfl (lv_room (Nat.le_of_ble_eq_true rfl)) dX13_partner_51 ⟨(Nat.le_trans (Nat.le_of_ble_eq_true rfl) hRc), (Nat.le_trans (Nat.le_of_ble_eq_true rfl) hRs)⟩) hS (fun q _ h => hFc q h) hFc (fun r_8 M_9 t H_7 locs ht hvm hw hB hz1 hk1 hS => ?_)
      have hp_10 := hw
      obtain ⟨hP1, hK1, hD1⟩ := hB
      rw [ht] at hP1
      obtain ⟨hP, hD⟩ := va_joinQ (X := [(za, .inr (13, [.int 0, .ref z1, .int (nI z2), .int (nI z3), .int z4, .int z5, .ref z6, .ref z7, .ref z8, .ref z9, .int (nI z10), .ref z11, .ref z12, .ref z13, .ref z14, .ref z15, .int (nI z16), .ref z17, .int z18, .ref z19]))]) (cx := [(za, .inr (13, [.int 0, .ref z1, .int (nI z2), .int (nI z3), .int z4, .int z5, .ref z6, .ref z7, .ref z8, .ref z9, .int (nI z10), .ref z11, .ref z12, .ref z13, .ref z14, .ref z15, .int (nI z16), .ref z17, .int z18, .ref z19]))]) (wr := []) (w1 := [(za, .inr (13, [.int 0, .ref z1, .int (nI z2), .int (nI z3), .int 2, .int (-1), .ref z6, .ref z7, .ref z8, .ref z9, .int (nI z10), .ref z11, .ref z12, .ref z13, .ref z14, .ref z15, .int (nI z16), .ref z17, .int z18, .ref z19]))]) (pl := va_pl L M) hP hD [0] [] rfl rfl (by decide) (by decide) hk1 hFc hP1 hD1
      have hP : va_P D vwCl ([(za, .inr (13, [.int 0, .ref z1, .int (nI z2), .int (nI z3), .int 2, .int (-1), .ref z6, .ref z7, .ref z8, .ref z9, .int (nI z10), .ref z11, .ref z12, .ref z13, .ref z14, .ref z15, .int (nI z16), .ref z17, .int z18, .ref z19]))] ++ va_pl L M) H_7 := hP
      have hD : va_D A ([(za, .inr (13, [.int 0, .ref z1, .int (nI z2), .int (nI z3), .int 2, .int (-1), .ref z6, .ref z7, .ref z8, .ref z9, .int (nI z10), .ref z11, .ref z12, .ref z13, .ref z14, .ref z15, .int (nI z16), .ref z17, .int z18, .ref z19]))] ++ va_pl L M) := hD
      have hq := Eq.symm hp_10
      subst hq
      rw [hQ]
      exact W.iret (v := (-1)) hx hb hr (fun t ht hW9 => ⟨⟨(-1), M, rfl, ⟨hW, hF, trivial⟩, ⟨z3, 2, (-1), (by omega), by rw [ht]; exact hP, hD⟩⟩, hS.F ht⟩) hS.2.2 dX13_partner_54
    · have hz := rfl (a := 0)
      refine lv_iload_n hx hb dX13_partner_43 rfl (lv_at hl 3 rfl) ?_
      refine lv_ldc (v := 1000000000) hx hb hown (hg _ wd_712) dX13_partner_44 ?_
      refine lv_icmp_le (tgt := 55) hx hb dX13_partner_46 (by decide) (fun c_11 => ?_) (fun c_11 => ?_)
      · have hz := rfl (a := 0)
        refine lv_iload_n hx hb dX13_partner_55 rfl (lv_at hl 2 rfl) ?_
        refine lv_iconst (v := 5) hx hb dX13_partner_56 (by decide) ?_
        refine lv_icmp_ne (tgt := 74) hx hb dX13_partner_57 (by decide) (fun c_12 => ?_) (fun c_12 => absurd c_12 (by rw [c_2]; decide))
        refine lv_aload_n hx hb dX13_partner_74 rfl (lv_at hl 1 rfl) ?_
        refine va_get (D := D) (ci := 13) (v := .int (nI z3)) (C := RX13) (T := TX13) (N := 20) hx hb hg inG13 hown hK hP 0 rfl rfl 3 (by decide) (hg _ wd_831) (fun _ h9 => h9) rfl dX13_partner_75 ?_
        refine lv_bipush (v := 40) hx hb dX13_partner_78 (by decide) ?_
        refine lv_icmp_ne (tgt := 90) hx hb dX13_partner_80 (by decide) (fun c_13 => ?_) (fun c_13 => ?_)
        · have hz := rfl (a := 0)
          have n_14 : ¬ (z3 = 40) := fun q => c_13 ((iEQ (a := z3) (b := 40) (by omega) (by omega)).mpr q)
          refine lv_aload_n hx hb dX13_partner_90 rfl (lv_at hl 1 rfl) ?_
          refine va_get (D := D) (ci := 13) (v := .ref z6) (C := RX13) (T := TX13) (N := 20) hx hb hg inG13 hown hK hP 0 rfl rfl 6 (by decide) (hg _ wd_719) (fun _ h9 => h9) rfl dX13_partner_91 ?_
          refine lv_aload_n hx hb dX13_partner_94 rfl (lv_at hl 1 rfl) ?_
          refine va_get (D := D) (ci := 13) (v := .int (nI z3)) (C := RX13) (T := TX13) (N := 20) hx hb hg inG13 hown hK hP 0 rfl rfl 3 (by decide) (hg _ wd_831) (fun _ h9 => h9) rfl dX13_partner_95 ?_
          refine lv_iload_n hx hb dX13_partner_98 rfl (lv_at hl 2 rfl) ?_
          obtain ⟨j_15, hj_16, rfl⟩ := i32nat 6 (by decide) c_3 (leB (b := 6) (c := 5) (by decide) (by decide) (Int32.not_lt.mp c_4))
          obtain ⟨f17, hM17, hf17⟩ := hW.open_47 i6
          refine pg_iast hx hb hK hP hD hS i6.1 0 hM17 rfl (inbN z3 40 (by omega) (by omega)) dX13_partner_99 (fun H_18 locs hP hD hS => ?_)
          obtain ⟨M_19, eM_19⟩ : ∃ M1 : Hp, M1 = va_up M z6 (.inl (cy 14, 40, .inl (upd f17 ((nI z3) : Int32).toNatClampNeg (nI j_15)))) := ⟨_, rfl⟩
          have hP : va_P D vwCl ([(za, .inr (13, [.int 0, .ref z1, .int (nI z2), .int (nI z3), .int z4, .int z5, .ref z6, .ref z7, .ref z8, .ref z9, .int (nI z10), .ref z11, .ref z12, .ref z13, .ref z14, .ref z15, .int (nI z16), .ref z17, .int z18, .ref z19]))] ++ va_pl L M_19) H_18 := by rw [eM_19]; exact hP
          have hD : va_D A ([(za, .inr (13, [.int 0, .ref z1, .int (nI z2), .int (nI z3), .int z4, .int z5, .ref z6, .ref z7, .ref z8, .ref z9, .int (nI z10), .ref z11, .ref z12, .ref z13, .ref z14, .ref z15, .int (nI z16), .ref z17, .int z18, .ref z19]))] ++ va_pl L M_19) := by rw [eM_19]; exact hD
          have hW : WOM cy K L M_19 := by rw [eM_19]; exact hW.up_47 i6 ⟨_, rfl, (updP (P := fun z => ∃ c : Nat, c < 6 ∧ z = nI c) hf17 ⟨j_15, by omega, rfl⟩)⟩
          have hF : fr K L [47, 48] M M_19 := by rw [eM_19]; exact hF.up i6 (by decide)
          have hM_20 : M_19 z6 = .inl (cy 14, 40, .inl (upd f17 ((nI z3) : Int32).toNatClampNeg (nI j_15))) := by rw [eM_19]; exact va_up_self _ _ _
          have hf_22 : ∀ j, j < 40 → ∃ c : Nat, c < 6 ∧ (upd f17 ((nI z3) : Int32).toNatClampNeg (nI j_15)) j = nI c := (updP (P := fun z => ∃ c : Nat, c < 6 ∧ z = nI c) hf17 ⟨j_15, by omega, rfl⟩)
          obtain ⟨f_21, ef_21⟩ : ∃ f : Nat → Int32, f = upd f17 ((nI z3) : Int32).toNatClampNeg (nI j_15) := ⟨_, rfl⟩
          rw [← ef_21] at hM_20 hf_22
          clear ef_21
          refine lv_aload_n hx hb dX13_partner_100 rfl (lv_at hl 1 rfl) ?_
          refine va_get (D := D) (ci := 13) (v := .ref z7) (C := RX13) (T := TX13) (N := 20) hx hb hg inG13 hown hK hP 0 rfl rfl 7 (by decide) (hg _ wd_760) (fun _ h9 => h9) rfl dX13_partner_101 ?_
          refine lv_aload_n hx hb dX13_partner_104 rfl (lv_at hl 1 rfl) ?_
          refine va_get (D := D) (ci := 13) (v := .int (nI z3)) (C := RX13) (T := TX13) (N := 20) hx hb hg inG13 hown hK hP 0 rfl rfl 3 (by decide) (hg _ wd_831) (fun _ h9 => h9) rfl dX13_partner_105 ?_
          refine lv_iload_n hx hb dX13_partner_108 rfl (lv_at hl 3 rfl) ?_
          obtain ⟨f23, hM23⟩ := hW.open_48 i7
          refine pg_iast hx hb hK hP hD hS i7.1 0 hM23 rfl (inbN z3 40 (by omega) (by omega)) dX13_partner_109 (fun H_24 locs hP hD hS => ?_)
          obtain ⟨M_25, eM_25⟩ : ∃ M1 : Hp, M1 = va_up M_19 z7 (.inl (cy 14, 40, .inl (upd f23 ((nI z3) : Int32).toNatClampNeg k2))) := ⟨_, rfl⟩
          have hP : va_P D vwCl ([(za, .inr (13, [.int 0, .ref z1, .int (nI z2), .int (nI z3), .int z4, .int z5, .ref z6, .ref z7, .ref z8, .ref z9, .int (nI z10), .ref z11, .ref z12, .ref z13, .ref z14, .ref z15, .int (nI z16), .ref z17, .int z18, .ref z19]))] ++ va_pl L M_25) H_24 := by rw [eM_25]; exact hP
          have hD : va_D A ([(za, .inr (13, [.int 0, .ref z1, .int (nI z2), .int (nI z3), .int z4, .int z5, .ref z6, .ref z7, .ref z8, .ref z9, .int (nI z10), .ref z11, .ref z12, .ref z13, .ref z14, .ref z15, .int (nI z16), .ref z17, .int z18, .ref z19]))] ++ va_pl L M_25) := by rw [eM_25]; exact hD
          have hW : WOM cy K L M_25 := by rw [eM_25]; exact hW.up_48 i7 ⟨_, rfl⟩
          have hF : fr K L [47, 48] M M_25 := by rw [eM_25]; exact hF.up i7 (by decide)
          have hM_26 : M_25 z7 = .inl (cy 14, 40, .inl (upd f23 ((nI z3) : Int32).toNatClampNeg k2)) := by rw [eM_25]; exact va_up_self _ _ _
          have hM_27 : M_25 z6 = .inl (cy 14, 40, .inl (f_21)) := by rw [eM_25, va_up_ne _ _ (i6.neT i7 (by decide))]; exact hM_20
          obtain ⟨f_28, ef_28⟩ : ∃ f : Nat → Int32, f = upd f23 ((nI z3) : Int32).toNatClampNeg k2 := ⟨_, rfl⟩
          rw [← ef_28] at hM_26
          clear ef_28
          refine lv_aload_n hx hb dX13_partner_110 rfl (lv_at hl 1 rfl) ?_
          refine lv_dup hx hb dX13_partner_111 rfl ?_
          refine va_get (D := D) (ci := 13) (v := .int (nI z3)) (C := RX13) (T := TX13) (N := 20) hx hb hg inG13 hown hK hP 0 rfl rfl 3 (by decide) (hg _ wd_831) (fun _ h9 => h9) rfl dX13_partner_112 ?_
          refine lv_iconst (v := 1) hx hb dX13_partner_115 (by decide) ?_
          refine lv_iadd hx hb dX13_partner_116 ?_
          refine lv_topi (fun f_29 ef_29 => ?_)
          obtain rfl : f_29 = (nI (z3 + 1)) := ef_29.trans (nI_add z3 1)
          refine va_put (D := D) (ci := 13) (v := .int (nI (z3 + 1))) (ty := .int) (C := RX13) (T := TX13) (N := 20) hx hb hg inG13 tyX13 tyX13_ok nmX13 hown hK hP hD hS 0 rfl rfl 3 (by decide) (hg _ wd_831) (fun _ h9 => h9) rfl (by decide +kernel) rfl rfl (Nat.le_of_ble_eq_true rfl) dX13_partner_117 (fun H_30 locs hP hD hS => ?_)
          have hP : va_P D vwCl ([(za, .inr (13, [.int 0, .ref z1, .int (nI z2), .int (nI (z3 + 1)), .int z4, .int z5, .ref z6, .ref z7, .ref z8, .ref z9, .int (nI z10), .ref z11, .ref z12, .ref z13, .ref z14, .ref z15, .int (nI z16), .ref z17, .int z18, .ref z19]))] ++ va_pl L M_25) H_30 := hP
          have hD : va_D A ([(za, .inr (13, [.int 0, .ref z1, .int (nI z2), .int (nI (z3 + 1)), .int z4, .int z5, .ref z6, .ref z7, .ref z8, .ref z9, .int (nI z10), .ref z11, .ref z12, .ref z13, .ref z14, .ref z15, .int (nI z16), .ref z17, .int z18, .ref z19]))] ++ va_pl L M_25) := hD
          refine lv_aload_n hx hb dX13_partner_120 rfl (lv_at hl 1 rfl) ?_
          refine lv_aload_n hx hb dX13_partner_121 rfl (lv_at hl 1 rfl) ?_
          refine va_get (D := D) (ci := 13) (v := .int (nI (z3 + 1))) (C := RX13) (T := TX13) (N := 20) hx hb hg inG13 hown hK hP 0 rfl rfl 3 (by decide) (hg _ wd_831) (fun _ h9 => h9) rfl dX13_partner_122 ?_
          refine lv_iconst (v := 1) hx hb dX13_partner_125 (by decide) ?_
          refine lv_isub hx hb dX13_partner_126 ?_
          refine lv_topi (fun f_31 ef_31 => ?_)
          obtain rfl : f_31 = (nI ((z3 + 1) - 1)) := ef_31.trans (nI_prd (by omega))
          have hPc := hP.sub (ws' := [(za, .inr (13, [.int 0, .ref z1, .int (nI z2), .int (nI (z3 + 1)), .int z4, .int z5, .ref z6, .ref z7, .ref z8, .ref z9, .int (nI z10), .ref z11, .ref z12, .ref z13, .ref z14, .ref z15, .int (nI z16), .ref z17, .int z18, .ref z19]))]) [0] rfl
          have hDc := hD.sub (ws' := [(za, .inr (13, [.int 0, .ref z1, .int (nI z2), .int (nI (z3 + 1)), .int z4, .int z5, .ref z6, .ref z7, .ref z8, .ref z9, .int (nI z10), .ref z11, .ref z12, .ref z13, .ref z14, .ref z15, .int (nI z16), .ref z17, .int z18, .ref z19]))]) [0] (by decide) rfl
          have hKc := hK.sub (tys' := []) [] rfl
          have hFc := va_free (wc := [(za, .inr (13, [.int 0, .ref z1, .int (nI z2), .int (nI (z3 + 1)), .int z4, .int z5, .ref z6, .ref z7, .ref z8, .ref z9, .int (nI z10), .ref z11, .ref z12, .ref z13, .ref z14, .ref z15, .int (nI z16), .ref z17, .int z18, .ref z19]))]) hD hS hA [0] rfl
          refine va_calli (va_runV (As := [.int (nI ((z3 + 1) - 1))]) (rest := []) ⟨hx, hb, hml, hown, hg⟩ (m_done l D H_30.size za 0 z1 (nI z2) (nI (z3 + 1)) z4 z5 z6 z7 z8 z9 (nI z10) z11 z12 z13 z14 z15 (nI z16) z17 z18 z19 (nI ((z3 + 1) - 1))) (cwV 1 hg (gV wd_730 wd_731 wd_732 wd_717 wd_733) rfl rfl rfl (by decide +kernel) ⟨(Nat.le_trans (Nat.le_of_ble_eq_true rfl) hRf), (Nat.le_trans (Nat.le_of_ble_eq_true rfl) hRl)⟩) ⟨Pr.blind, va_recv hK hP (ci := 13) (q0 := 0) rfl rfl, fun U hU hW => ⟨rfl, Pr.at hPc hKc hDc hN hU hW⟩⟩ rfl rfl hl.1 rfl (lv_room (Nat.le_of_ble_eq_true rfl)) dX13_partner_127 ⟨(Nat.le_trans (Nat.le_of_ble_eq_true rfl) hRc), (Nat.le_trans (Nat.le_of_ble_eq_true rfl) hRs)⟩) hS (fun q _ h => hFc q h) hFc (fun r_33 M_34 t H_32 locs ht hvm hw hB hz1 hk1 hS => ?_)
          have hp_35 := hw
          obtain ⟨hP1, hK1, hD1⟩ := hB
          rw [ht] at hP1
          obtain ⟨hP, hD⟩ := va_joinQ (X := [(za, .inr (13, [.int 0, .ref z1, .int (nI z2), .int (nI (z3 + 1)), .int z4, .int z5, .ref z6, .ref z7, .ref z8, .ref z9, .int (nI z10), .ref z11, .ref z12, .ref z13, .ref z14, .ref z15, .int (nI z16), .ref z17, .int z18, .ref z19]))]) (cx := [(za, .inr (13, [.int 0, .ref z1, .int (nI z2), .int (nI (z3 + 1)), .int z4, .int z5, .ref z6, .ref z7, .ref z8, .ref z9, .int (nI z10), .ref z11, .ref z12, .ref z13, .ref z14, .ref z15, .int (nI z16), .ref z17, .int z18, .ref z19]))]) (wr := []) (w1 := [(za, .inr (13, [.int 0, .ref z1, .int (nI z2), .int (nI (z3 + 1)), .int 0, .int (-1), .ref z6, .ref z7, .ref z8, .ref z9, .int (nI z10), .ref z11, .ref z12, .ref z13, .ref z14, .ref z15, .int (nI z16), .ref z17, .int z18, .ref z19]))]) (pl := va_pl L M_25) hP hD [0] [] rfl rfl (by decide) (by decide) hk1 hFc hP1 hD1
          have hP : va_P D vwCl ([(za, .inr (13, [.int 0, .ref z1, .int (nI z2), .int (nI (z3 + 1)), .int 0, .int (-1), .ref z6, .ref z7, .ref z8, .ref z9, .int (nI z10), .ref z11, .ref z12, .ref z13, .ref z14, .ref z15, .int (nI z16), .ref z17, .int z18, .ref z19]))] ++ va_pl L M_25) H_32 := hP
          have hD : va_D A ([(za, .inr (13, [.int 0, .ref z1, .int (nI z2), .int (nI (z3 + 1)), .int 0, .int (-1), .ref z6, .ref z7, .ref z8, .ref z9, .int (nI z10), .ref z11, .ref z12, .ref z13, .ref z14, .ref z15, .int (nI z16), .ref z17, .int z18, .ref z19]))] ++ va_pl L M_25) := hD
          have hq := Eq.symm hp_35
          subst hq
          rw [hQ]
          exact W.iret (v := (nI ((z3 + 1) - 1))) hx hb hr (fun t ht hW9 => ⟨⟨(nI ((z3 + 1) - 1)), M_25, rfl, ⟨hW, hF, trivial⟩, ⟨(z3 + 1), 0, (-1), (by omega), by rw [ht]; exact hP, hD⟩⟩, hS.F ht⟩) hS.2.2 dX13_partner_130
        · have hz := rfl (a := 0)
          have n_36 : z3 = 40 := (iEQ (a := z3) (b := 40) (by omega) (by omega)).mp c_13
          refine lv_aload_n hx hb dX13_partner_83 rfl (lv_at hl 1 rfl) ?_
          refine lv_bipush (v := 9) hx hb dX13_partner_84 (by decide) ?_
          have hPc := hP.sub (ws' := [(za, .inr (13, [.int 0, .ref z1, .int (nI z2), .int (nI z3), .int z4, .int z5, .ref z6, .ref z7, .ref z8, .ref z9, .int (nI z10), .ref z11, .ref z12, .ref z13, .ref z14, .ref z15, .int (nI z16), .ref z17, .int z18, .ref z19]))]) [0] rfl
          have hDc := hD.sub (ws' := [(za, .inr (13, [.int 0, .ref z1, .int (nI z2), .int (nI z3), .int z4, .int z5, .ref z6, .ref z7, .ref z8, .ref z9, .int (nI z10), .ref z11, .ref z12, .ref z13, .ref z14, .ref z15, .int (nI z16), .ref z17, .int z18, .ref z19]))]) [0] (by decide) rfl
          have hKc := hK.sub (tys' := []) [] rfl
          have hFc := va_free (wc := [(za, .inr (13, [.int 0, .ref z1, .int (nI z2), .int (nI z3), .int z4, .int z5, .ref z6, .ref z7, .ref z8, .ref z9, .int (nI z10), .ref z11, .ref z12, .ref z13, .ref z14, .ref z15, .int (nI z16), .ref z17, .int z18, .ref z19]))]) hD hS hA [0] rfl
          refine va_calli (va_runV (As := [.int 9]) (rest := []) ⟨hx, hb, hml, hown, hg⟩ (m_refused l D H_1.size za 0 z1 (nI z2) (nI z3) z4 z5 z6 z7 z8 z9 (nI z10) z11 z12 z13 z14 z15 (nI z16) z17 z18 z19 9) (cwV 1 hg (gV wd_725 wd_726 wd_727 wd_717 wd_728) rfl rfl rfl (by decide +kernel) ⟨(Nat.le_trans (Nat.le_of_ble_eq_true rfl) hRf), (Nat.le_trans (Nat.le_of_ble_eq_true rfl) hRl)⟩) ⟨Pr.blind, va_recv hK hP (ci := 13) (q0 := 0) rfl rfl, fun U hU hW => ⟨rfl, Pr.at hPc hKc hDc hN hU hW⟩⟩ rfl rfl hl.1 rfl (lv_room (Nat.le_of_ble_eq_true rfl)) dX13_partner_86 ⟨(Nat.le_trans (Nat.le_of_ble_eq_true rfl) hRc), (Nat.le_trans (Nat.le_of_ble_eq_true rfl) hRs)⟩) hS (fun q _ h => hFc q h) hFc (fun r_38 M_39 t H_37 locs ht hvm hw hB hz1 hk1 hS => ?_)
          have hp_40 := hw
          obtain ⟨hP1, hK1, hD1⟩ := hB
          rw [ht] at hP1
          obtain ⟨hP, hD⟩ := va_joinQ (X := [(za, .inr (13, [.int 0, .ref z1, .int (nI z2), .int (nI z3), .int z4, .int z5, .ref z6, .ref z7, .ref z8, .ref z9, .int (nI z10), .ref z11, .ref z12, .ref z13, .ref z14, .ref z15, .int (nI z16), .ref z17, .int z18, .ref z19]))]) (cx := [(za, .inr (13, [.int 0, .ref z1, .int (nI z2), .int (nI z3), .int z4, .int z5, .ref z6, .ref z7, .ref z8, .ref z9, .int (nI z10), .ref z11, .ref z12, .ref z13, .ref z14, .ref z15, .int (nI z16), .ref z17, .int z18, .ref z19]))]) (wr := []) (w1 := [(za, .inr (13, [.int 0, .ref z1, .int (nI z2), .int (nI z3), .int 9, .int (-1), .ref z6, .ref z7, .ref z8, .ref z9, .int (nI z10), .ref z11, .ref z12, .ref z13, .ref z14, .ref z15, .int (nI z16), .ref z17, .int z18, .ref z19]))]) (pl := va_pl L M) hP hD [0] [] rfl rfl (by decide) (by decide) hk1 hFc hP1 hD1
          have hP : va_P D vwCl ([(za, .inr (13, [.int 0, .ref z1, .int (nI z2), .int (nI z3), .int 9, .int (-1), .ref z6, .ref z7, .ref z8, .ref z9, .int (nI z10), .ref z11, .ref z12, .ref z13, .ref z14, .ref z15, .int (nI z16), .ref z17, .int z18, .ref z19]))] ++ va_pl L M) H_37 := hP
          have hD : va_D A ([(za, .inr (13, [.int 0, .ref z1, .int (nI z2), .int (nI z3), .int 9, .int (-1), .ref z6, .ref z7, .ref z8, .ref z9, .int (nI z10), .ref z11, .ref z12, .ref z13, .ref z14, .ref z15, .int (nI z16), .ref z17, .int z18, .ref z19]))] ++ va_pl L M) := hD
          have hq := Eq.symm hp_40
          subst hq
          rw [hQ]
          exact W.iret (v := (-1)) hx hb hr (fun t ht hW9 => ⟨⟨(-1), M, rfl, ⟨hW, hF, trivial⟩, ⟨z3, 9, (-1), (by omega), by rw [ht]; exact hP, hD⟩⟩, hS.F ht⟩) hS.2.2 dX13_partner_89
      · have hz := rfl (a := 0)
        have n_41 : ¬ k2 < 0 := gtN (c := 1000000000) (by omega) (Int32.not_le.mp c_11)
        refine lv_aload_n hx hb dX13_partner_49 rfl (lv_at hl 1 rfl) ?_
        refine lv_iconst (v := 2) hx hb dX13_partner_50 (by decide) ?_
        have hPc := hP.sub (ws' := [(za, .inr (13, [.int 0, .ref z1, .int (nI z2), .int (nI z3), .int z4, .int z5, .ref z6, .ref z7, .ref z8, .ref z9, .int (nI z10), .ref z11, .ref z12, .ref z13, .ref z14, .ref z15, .int (nI z16), .ref z17, .int z18, .ref z19]))]) [0] rfl
        have hDc := hD.sub (ws' := [(za, .inr (13, [.int 0, .ref z1, .int (nI z2), .int (nI z3), .int z4, .int z5, .ref z6, .ref z7, .ref z8, .ref z9, .int (nI z10), .ref z11, .ref z12, .ref z13, .ref z14, .ref z15, .int (nI z16), .ref z17, .int z18, .ref z19]))]) [0] (by decide) rfl
        have hKc := hK.sub (tys' := []) [] rfl
        have hFc := va_free (wc := [(za, .inr (13, [.int 0, .ref z1, .int (nI z2), .int (nI z3), .int z4, .int z5, .ref z6, .ref z7, .ref z8, .ref z9, .int (nI z10), .ref z11, .ref z12, .ref z13, .ref z14, .ref z15, .int (nI z16), .ref z17, .int z18, .ref z19]))]) hD hS hA [0] rfl
        refine va_calli (va_runV (As := [.int 2]) (rest := []) ⟨hx, hb, hml, hown, hg⟩ (m_refused l D H_1.size za 0 z1 (nI z2) (nI z3) z4 z5 z6 z7 z8 z9 (nI z10) z11 z12 z13 z14 z15 (nI z16) z17 z18 z19 2) (cwV 1 hg (gV wd_725 wd_726 wd_727 wd_717 wd_728) rfl rfl rfl (by decide +kernel) ⟨(Nat.le_trans (Nat.le_of_ble_eq_true rfl) hRf), (Nat.le_trans (Nat.le_of_ble_eq_true rfl) hRl)⟩) ⟨Pr.blind, va_recv hK hP (ci := 13) (q0 := 0) rfl rfl, fun U hU hW => ⟨rfl, Pr.at hPc hKc hDc hN hU hW⟩⟩ rfl rfl hl.1 rfl (lv_room (Nat.le_of_ble_eq_true rfl)) dX13_partner_51 ⟨(Nat.le_trans (Nat.le_of_ble_eq_true rfl) hRc), (Nat.le_trans (Nat.le_of_ble_eq_true rfl) hRs)⟩) hS (fun q _ h => hFc q h) hFc (fun r_43 M_44 t H_42 locs ht hvm hw hB hz1 hk1 hS => ?_)
        have hp_45 := hw
        obtain ⟨hP1, hK1, hD1⟩ := hB
        rw [ht] at hP1
        obtain ⟨hP, hD⟩ := va_joinQ (X := [(za, .inr (13, [.int 0, .ref z1, .int (nI z2), .int (nI z3), .int z4, .int z5, .ref z6, .ref z7, .ref z8, .ref z9, .int (nI z10), .ref z11, .ref z12, .ref z13, .ref z14, .ref z15, .int (nI z16), .ref z17, .int z18, .ref z19]))]) (cx := [(za, .inr (13, [.int 0, .ref z1, .int (nI z2), .int (nI z3), .int z4, .int z5, .ref z6, .ref z7, .ref z8, .ref z9, .int (nI z10), .ref z11, .ref z12, .ref z13, .ref z14, .ref z15, .int (nI z16), .ref z17, .int z18, .ref z19]))]) (wr := []) (w1 := [(za, .inr (13, [.int 0, .ref z1, .int (nI z2), .int (nI z3), .int 2, .int (-1), .ref z6, .ref z7, .ref z8, .ref z9, .int (nI z10), .ref z11, .ref z12, .ref z13, .ref z14, .ref z15, .int (nI z16), .ref z17, .int z18, .ref z19]))]) (pl := va_pl L M) hP hD [0] [] rfl rfl (by decide) (by decide) hk1 hFc hP1 hD1
        have hP : va_P D vwCl ([(za, .inr (13, [.int 0, .ref z1, .int (nI z2), .int (nI z3), .int 2, .int (-1), .ref z6, .ref z7, .ref z8, .ref z9, .int (nI z10), .ref z11, .ref z12, .ref z13, .ref z14, .ref z15, .int (nI z16), .ref z17, .int z18, .ref z19]))] ++ va_pl L M) H_42 := hP
        have hD : va_D A ([(za, .inr (13, [.int 0, .ref z1, .int (nI z2), .int (nI z3), .int 2, .int (-1), .ref z6, .ref z7, .ref z8, .ref z9, .int (nI z10), .ref z11, .ref z12, .ref z13, .ref z14, .ref z15, .int (nI z16), .ref z17, .int z18, .ref z19]))] ++ va_pl L M) := hD
        have hq := Eq.symm hp_45
        subst hq
        rw [hQ]
        exact W.iret (v := (-1)) hx hb hr (fun t ht hW9 => ⟨⟨(-1), M, rfl, ⟨hW, hF, trivial⟩, ⟨z3, 2, (-1), (by omega), by rw [ht]; exact hP, hD⟩⟩, hS.F ht⟩) hS.2.2 dX13_partner_54
  · have hz := rfl (a := 0)
    refine lv_iload_n hx hb dX13_partner_10 rfl (lv_at hl 1 rfl) ?_
    refine lv_iconst (v := 2) hx hb dX13_partner_11 (by decide) ?_
    refine lv_icmp_eq (tgt := 20) hx hb dX13_partner_12 (by decide) (fun c_46 => ?_) (fun c_46 => ?_)
    · have hz := rfl (a := 0)
      refine lv_iconst (v := 1) hx hb dX13_partner_20 (by decide) ?_
      refine lv_goto (tgt := 25) hx hb dX13_partner_21 (by decide) ?_
      refine lv_istore_n (lv' := [(3, .int 1), (0, .ref za), (1, .int k1), (2, .int k2)]) hx hb dX13_partner_25 rfl hl (by decide) rfl (fun ls hl => ?_)
      refine lv_iload_n hx hb dX13_partner_26 rfl (lv_at hl 2 rfl) ?_
      refine lv_if_lt (tgt := 49) hx hb dX13_partner_27 (by decide) (fun c_47 => absurd c_47 (by rw [c_46]; decide)) (fun c_47 => ?_)
      refine lv_iload_n hx hb dX13_partner_30 rfl (lv_at hl 2 rfl) ?_
      refine lv_iconst (v := 5) hx hb dX13_partner_31 (by decide) ?_
      refine lv_icmp_gt (tgt := 49) hx hb dX13_partner_32 (by decide) (fun c_48 => absurd c_48 (by rw [c_46]; decide)) (fun c_48 => ?_)
      refine lv_iload_n hx hb dX13_partner_35 rfl (lv_at hl 0 rfl) ?_
      refine lv_if_eq (tgt := 55) hx hb dX13_partner_36 (by decide) (fun c_49 => absurd c_49 (by decide)) (fun _ => ?_)
      refine lv_iload_n hx hb dX13_partner_39 rfl (lv_at hl 3 rfl) ?_
      refine lv_if_lt (tgt := 49) hx hb dX13_partner_40 (by decide) (fun c_50 => ?_) (fun c_50 => ?_)
      · have hz := rfl (a := 0)
        refine lv_aload_n hx hb dX13_partner_49 rfl (lv_at hl 1 rfl) ?_
        refine lv_iconst (v := 2) hx hb dX13_partner_50 (by decide) ?_
        have hPc := hP.sub (ws' := [(za, .inr (13, [.int 0, .ref z1, .int (nI z2), .int (nI z3), .int z4, .int z5, .ref z6, .ref z7, .ref z8, .ref z9, .int (nI z10), .ref z11, .ref z12, .ref z13, .ref z14, .ref z15, .int (nI z16), .ref z17, .int z18, .ref z19]))]) [0] rfl
        have hDc := hD.sub (ws' := [(za, .inr (13, [.int 0, .ref z1, .int (nI z2), .int (nI z3), .int z4, .int z5, .ref z6, .ref z7, .ref z8, .ref z9, .int (nI z10), .ref z11, .ref z12, .ref z13, .ref z14, .ref z15, .int (nI z16), .ref z17, .int z18, .ref z19]))]) [0] (by decide) rfl
        have hKc := hK.sub (tys' := []) [] rfl
        have hFc := va_free (wc := [(za, .inr (13, [.int 0, .ref z1, .int (nI z2), .int (nI z3), .int z4, .int z5, .ref z6, .ref z7, .ref z8, .ref z9, .int (nI z10), .ref z11, .ref z12, .ref z13, .ref z14, .ref z15, .int (nI z16), .ref z17, .int z18, .ref z19]))]) hD hS hA [0] rfl
        refine va_calli (va_runV (As := [.int 2]) (rest := []) ⟨hx, hb, hml, hown, hg⟩ (m_refused l D H_1.size za 0 z1 (nI z2) (nI z3) z4 z5 z6 z7 z8 z9 (nI z10) z11 z12 z13 z14 z15 (nI z16) z17 z18 z19 2) (cwV 1 hg (gV wd_725 wd_726 wd_727 wd_717 wd_728) rfl rfl rfl (by decide +kernel) ⟨(Nat.le_trans (Nat.le_of_ble_eq_true rfl) hRf), (Nat.le_trans (Nat.le_of_ble_eq_true rfl) hRl)⟩) ⟨Pr.blind, va_recv hK hP (ci := 13) (q0 := 0) rfl rfl, fun U hU hW => ⟨rfl, Pr.at hPc hKc hDc hN hU hW⟩⟩ rfl rfl hl.1 rfl (lv_room (Nat.le_of_ble_eq_true rfl)) dX13_partner_51 ⟨(Nat.le_trans (Nat.le_of_ble_eq_true rfl) hRc), (Nat.le_trans (Nat.le_of_ble_eq_true rfl) hRs)⟩) hS (fun q _ h => hFc q h) hFc (fun r_52 M_53 t H_51 locs ht hvm hw hB hz1 hk1 hS => ?_)
        have hp_54 := hw
        obtain ⟨hP1, hK1, hD1⟩ := hB
        rw [ht] at hP1
        obtain ⟨hP, hD⟩ := va_joinQ (X := [(za, .inr (13, [.int 0, .ref z1, .int (nI z2), .int (nI z3), .int z4, .int z5, .ref z6, .ref z7, .ref z8, .ref z9, .int (nI z10), .ref z11, .ref z12, .ref z13, .ref z14, .ref z15, .int (nI z16), .ref z17, .int z18, .ref z19]))]) (cx := [(za, .inr (13, [.int 0, .ref z1, .int (nI z2), .int (nI z3), .int z4, .int z5, .ref z6, .ref z7, .ref z8, .ref z9, .int (nI z10), .ref z11, .ref z12, .ref z13, .ref z14, .ref z15, .int (nI z16), .ref z17, .int z18, .ref z19]))]) (wr := []) (w1 := [(za, .inr (13, [.int 0, .ref z1, .int (nI z2), .int (nI z3), .int 2, .int (-1), .ref z6, .ref z7, .ref z8, .ref z9, .int (nI z10), .ref z11, .ref z12, .ref z13, .ref z14, .ref z15, .int (nI z16), .ref z17, .int z18, .ref z19]))]) (pl := va_pl L M) hP hD [0] [] rfl rfl (by decide) (by decide) hk1 hFc hP1 hD1
        have hP : va_P D vwCl ([(za, .inr (13, [.int 0, .ref z1, .int (nI z2), .int (nI z3), .int 2, .int (-1), .ref z6, .ref z7, .ref z8, .ref z9, .int (nI z10), .ref z11, .ref z12, .ref z13, .ref z14, .ref z15, .int (nI z16), .ref z17, .int z18, .ref z19]))] ++ va_pl L M) H_51 := hP
        have hD : va_D A ([(za, .inr (13, [.int 0, .ref z1, .int (nI z2), .int (nI z3), .int 2, .int (-1), .ref z6, .ref z7, .ref z8, .ref z9, .int (nI z10), .ref z11, .ref z12, .ref z13, .ref z14, .ref z15, .int (nI z16), .ref z17, .int z18, .ref z19]))] ++ va_pl L M) := hD
        have hq := Eq.symm hp_54
        subst hq
        rw [hQ]
        exact W.iret (v := (-1)) hx hb hr (fun t ht hW9 => ⟨⟨(-1), M, rfl, ⟨hW, hF, trivial⟩, ⟨z3, 2, (-1), (by omega), by rw [ht]; exact hP, hD⟩⟩, hS.F ht⟩) hS.2.2 dX13_partner_54
      · have hz := rfl (a := 0)
        refine lv_iload_n hx hb dX13_partner_43 rfl (lv_at hl 3 rfl) ?_
        refine lv_ldc (v := 1000000000) hx hb hown (hg _ wd_712) dX13_partner_44 ?_
        refine lv_icmp_le (tgt := 55) hx hb dX13_partner_46 (by decide) (fun c_55 => ?_) (fun c_55 => ?_)
        · have hz := rfl (a := 0)
          refine lv_iload_n hx hb dX13_partner_55 rfl (lv_at hl 2 rfl) ?_
          refine lv_iconst (v := 5) hx hb dX13_partner_56 (by decide) ?_
          refine lv_icmp_ne (tgt := 74) hx hb dX13_partner_57 (by decide) (fun c_56 => ?_) (fun c_56 => absurd c_56 (by rw [c_46]; decide))
          refine lv_aload_n hx hb dX13_partner_74 rfl (lv_at hl 1 rfl) ?_
          refine va_get (D := D) (ci := 13) (v := .int (nI z3)) (C := RX13) (T := TX13) (N := 20) hx hb hg inG13 hown hK hP 0 rfl rfl 3 (by decide) (hg _ wd_831) (fun _ h9 => h9) rfl dX13_partner_75 ?_
          refine lv_bipush (v := 40) hx hb dX13_partner_78 (by decide) ?_
          refine lv_icmp_ne (tgt := 90) hx hb dX13_partner_80 (by decide) (fun c_57 => ?_) (fun c_57 => ?_)
          · have hz := rfl (a := 0)
            have n_58 : ¬ (z3 = 40) := fun q => c_57 ((iEQ (a := z3) (b := 40) (by omega) (by omega)).mpr q)
            refine lv_aload_n hx hb dX13_partner_90 rfl (lv_at hl 1 rfl) ?_
            refine va_get (D := D) (ci := 13) (v := .ref z6) (C := RX13) (T := TX13) (N := 20) hx hb hg inG13 hown hK hP 0 rfl rfl 6 (by decide) (hg _ wd_719) (fun _ h9 => h9) rfl dX13_partner_91 ?_
            refine lv_aload_n hx hb dX13_partner_94 rfl (lv_at hl 1 rfl) ?_
            refine va_get (D := D) (ci := 13) (v := .int (nI z3)) (C := RX13) (T := TX13) (N := 20) hx hb hg inG13 hown hK hP 0 rfl rfl 3 (by decide) (hg _ wd_831) (fun _ h9 => h9) rfl dX13_partner_95 ?_
            refine lv_iload_n hx hb dX13_partner_98 rfl (lv_at hl 2 rfl) ?_
            obtain ⟨j_59, hj_60, rfl⟩ := i32nat 6 (by decide) c_47 (leB (b := 6) (c := 5) (by decide) (by decide) (Int32.not_lt.mp c_48))
            obtain ⟨f61, hM61, hf61⟩ := hW.open_47 i6
            refine pg_iast hx hb hK hP hD hS i6.1 0 hM61 rfl (inbN z3 40 (by omega) (by omega)) dX13_partner_99 (fun H_62 locs hP hD hS => ?_)
            obtain ⟨M_63, eM_63⟩ : ∃ M1 : Hp, M1 = va_up M z6 (.inl (cy 14, 40, .inl (upd f61 ((nI z3) : Int32).toNatClampNeg (nI j_59)))) := ⟨_, rfl⟩
            have hP : va_P D vwCl ([(za, .inr (13, [.int 0, .ref z1, .int (nI z2), .int (nI z3), .int z4, .int z5, .ref z6, .ref z7, .ref z8, .ref z9, .int (nI z10), .ref z11, .ref z12, .ref z13, .ref z14, .ref z15, .int (nI z16), .ref z17, .int z18, .ref z19]))] ++ va_pl L M_63) H_62 := by rw [eM_63]; exact hP
            have hD : va_D A ([(za, .inr (13, [.int 0, .ref z1, .int (nI z2), .int (nI z3), .int z4, .int z5, .ref z6, .ref z7, .ref z8, .ref z9, .int (nI z10), .ref z11, .ref z12, .ref z13, .ref z14, .ref z15, .int (nI z16), .ref z17, .int z18, .ref z19]))] ++ va_pl L M_63) := by rw [eM_63]; exact hD
            have hW : WOM cy K L M_63 := by rw [eM_63]; exact hW.up_47 i6 ⟨_, rfl, (updP (P := fun z => ∃ c : Nat, c < 6 ∧ z = nI c) hf61 ⟨j_59, by omega, rfl⟩)⟩
            have hF : fr K L [47, 48] M M_63 := by rw [eM_63]; exact hF.up i6 (by decide)
            have hM_64 : M_63 z6 = .inl (cy 14, 40, .inl (upd f61 ((nI z3) : Int32).toNatClampNeg (nI j_59))) := by rw [eM_63]; exact va_up_self _ _ _
            have hf_66 : ∀ j, j < 40 → ∃ c : Nat, c < 6 ∧ (upd f61 ((nI z3) : Int32).toNatClampNeg (nI j_59)) j = nI c := (updP (P := fun z => ∃ c : Nat, c < 6 ∧ z = nI c) hf61 ⟨j_59, by omega, rfl⟩)
            obtain ⟨f_65, ef_65⟩ : ∃ f : Nat → Int32, f = upd f61 ((nI z3) : Int32).toNatClampNeg (nI j_59) := ⟨_, rfl⟩
            rw [← ef_65] at hM_64 hf_66
            clear ef_65
            refine lv_aload_n hx hb dX13_partner_100 rfl (lv_at hl 1 rfl) ?_
            refine va_get (D := D) (ci := 13) (v := .ref z7) (C := RX13) (T := TX13) (N := 20) hx hb hg inG13 hown hK hP 0 rfl rfl 7 (by decide) (hg _ wd_760) (fun _ h9 => h9) rfl dX13_partner_101 ?_
            refine lv_aload_n hx hb dX13_partner_104 rfl (lv_at hl 1 rfl) ?_
            refine va_get (D := D) (ci := 13) (v := .int (nI z3)) (C := RX13) (T := TX13) (N := 20) hx hb hg inG13 hown hK hP 0 rfl rfl 3 (by decide) (hg _ wd_831) (fun _ h9 => h9) rfl dX13_partner_105 ?_
            refine lv_iload_n hx hb dX13_partner_108 rfl (lv_at hl 3 rfl) ?_
            obtain ⟨f67, hM67⟩ := hW.open_48 i7
            refine pg_iast hx hb hK hP hD hS i7.1 0 hM67 rfl (inbN z3 40 (by omega) (by omega)) dX13_partner_109 (fun H_68 locs hP hD hS => ?_)
            obtain ⟨M_69, eM_69⟩ : ∃ M1 : Hp, M1 = va_up M_63 z7 (.inl (cy 14, 40, .inl (upd f67 ((nI z3) : Int32).toNatClampNeg k2))) := ⟨_, rfl⟩
            have hP : va_P D vwCl ([(za, .inr (13, [.int 0, .ref z1, .int (nI z2), .int (nI z3), .int z4, .int z5, .ref z6, .ref z7, .ref z8, .ref z9, .int (nI z10), .ref z11, .ref z12, .ref z13, .ref z14, .ref z15, .int (nI z16), .ref z17, .int z18, .ref z19]))] ++ va_pl L M_69) H_68 := by rw [eM_69]; exact hP
            have hD : va_D A ([(za, .inr (13, [.int 0, .ref z1, .int (nI z2), .int (nI z3), .int z4, .int z5, .ref z6, .ref z7, .ref z8, .ref z9, .int (nI z10), .ref z11, .ref z12, .ref z13, .ref z14, .ref z15, .int (nI z16), .ref z17, .int z18, .ref z19]))] ++ va_pl L M_69) := by rw [eM_69]; exact hD
            have hW : WOM cy K L M_69 := by rw [eM_69]; exact hW.up_48 i7 ⟨_, rfl⟩
            have hF : fr K L [47, 48] M M_69 := by rw [eM_69]; exact hF.up i7 (by decide)
            have hM_70 : M_69 z7 = .inl (cy 14, 40, .inl (upd f67 ((nI z3) : Int32).toNatClampNeg k2)) := by rw [eM_69]; exact va_up_self _ _ _
            have hM_71 : M_69 z6 = .inl (cy 14, 40, .inl (f_65)) := by rw [eM_69, va_up_ne _ _ (i6.neT i7 (by decide))]; exact hM_64
            obtain ⟨f_72, ef_72⟩ : ∃ f : Nat → Int32, f = upd f67 ((nI z3) : Int32).toNatClampNeg k2 := ⟨_, rfl⟩
            rw [← ef_72] at hM_70
            clear ef_72
            refine lv_aload_n hx hb dX13_partner_110 rfl (lv_at hl 1 rfl) ?_
            refine lv_dup hx hb dX13_partner_111 rfl ?_
            refine va_get (D := D) (ci := 13) (v := .int (nI z3)) (C := RX13) (T := TX13) (N := 20) hx hb hg inG13 hown hK hP 0 rfl rfl 3 (by decide) (hg _ wd_831) (fun _ h9 => h9) rfl dX13_partner_112 ?_
            refine lv_iconst (v := 1) hx hb dX13_partner_115 (by decide) ?_
            refine lv_iadd hx hb dX13_partner_116 ?_
            refine lv_topi (fun f_73 ef_73 => ?_)
            obtain rfl : f_73 = (nI (z3 + 1)) := ef_73.trans (nI_add z3 1)
            refine va_put (D := D) (ci := 13) (v := .int (nI (z3 + 1))) (ty := .int) (C := RX13) (T := TX13) (N := 20) hx hb hg inG13 tyX13 tyX13_ok nmX13 hown hK hP hD hS 0 rfl rfl 3 (by decide) (hg _ wd_831) (fun _ h9 => h9) rfl (by decide +kernel) rfl rfl (Nat.le_of_ble_eq_true rfl) dX13_partner_117 (fun H_74 locs hP hD hS => ?_)
            have hP : va_P D vwCl ([(za, .inr (13, [.int 0, .ref z1, .int (nI z2), .int (nI (z3 + 1)), .int z4, .int z5, .ref z6, .ref z7, .ref z8, .ref z9, .int (nI z10), .ref z11, .ref z12, .ref z13, .ref z14, .ref z15, .int (nI z16), .ref z17, .int z18, .ref z19]))] ++ va_pl L M_69) H_74 := hP
            have hD : va_D A ([(za, .inr (13, [.int 0, .ref z1, .int (nI z2), .int (nI (z3 + 1)), .int z4, .int z5, .ref z6, .ref z7, .ref z8, .ref z9, .int (nI z10), .ref z11, .ref z12, .ref z13, .ref z14, .ref z15, .int (nI z16), .ref z17, .int z18, .ref z19]))] ++ va_pl L M_69) := hD
            refine lv_aload_n hx hb dX13_partner_120 rfl (lv_at hl 1 rfl) ?_
            refine lv_aload_n hx hb dX13_partner_121 rfl (lv_at hl 1 rfl) ?_
            refine va_get (D := D) (ci := 13) (v := .int (nI (z3 + 1))) (C := RX13) (T := TX13) (N := 20) hx hb hg inG13 hown hK hP 0 rfl rfl 3 (by decide) (hg _ wd_831) (fun _ h9 => h9) rfl dX13_partner_122 ?_
            refine lv_iconst (v := 1) hx hb dX13_partner_125 (by decide) ?_
            refine lv_isub hx hb dX13_partner_126 ?_
            refine lv_topi (fun f_75 ef_75 => ?_)
            obtain rfl : f_75 = (nI ((z3 + 1) - 1)) := ef_75.trans (nI_prd (by omega))
            have hPc := hP.sub (ws' := [(za, .inr (13, [.int 0, .ref z1, .int (nI z2), .int (nI (z3 + 1)), .int z4, .int z5, .ref z6, .ref z7, .ref z8, .ref z9, .int (nI z10), .ref z11, .ref z12, .ref z13, .ref z14, .ref z15, .int (nI z16), .ref z17, .int z18, .ref z19]))]) [0] rfl
            have hDc := hD.sub (ws' := [(za, .inr (13, [.int 0, .ref z1, .int (nI z2), .int (nI (z3 + 1)), .int z4, .int z5, .ref z6, .ref z7, .ref z8, .ref z9, .int (nI z10), .ref z11, .ref z12, .ref z13, .ref z14, .ref z15, .int (nI z16), .ref z17, .int z18, .ref z19]))]) [0] (by decide) rfl
            have hKc := hK.sub (tys' := []) [] rfl
            have hFc := va_free (wc := [(za, .inr (13, [.int 0, .ref z1, .int (nI z2), .int (nI (z3 + 1)), .int z4, .int z5, .ref z6, .ref z7, .ref z8, .ref z9, .int (nI z10), .ref z11, .ref z12, .ref z13, .ref z14, .ref z15, .int (nI z16), .ref z17, .int z18, .ref z19]))]) hD hS hA [0] rfl
            refine va_calli (va_runV (As := [.int (nI ((z3 + 1) - 1))]) (rest := []) ⟨hx, hb, hml, hown, hg⟩ (m_done l D H_74.size za 0 z1 (nI z2) (nI (z3 + 1)) z4 z5 z6 z7 z8 z9 (nI z10) z11 z12 z13 z14 z15 (nI z16) z17 z18 z19 (nI ((z3 + 1) - 1))) (cwV 1 hg (gV wd_730 wd_731 wd_732 wd_717 wd_733) rfl rfl rfl (by decide +kernel) ⟨(Nat.le_trans (Nat.le_of_ble_eq_true rfl) hRf), (Nat.le_trans (Nat.le_of_ble_eq_true rfl) hRl)⟩) ⟨Pr.blind, va_recv hK hP (ci := 13) (q0 := 0) rfl rfl, fun U hU hW => ⟨rfl, Pr.at hPc hKc hDc hN hU hW⟩⟩ rfl rfl hl.1 rfl (lv_room (Nat.le_of_ble_eq_true rfl)) dX13_partner_127 ⟨(Nat.le_trans (Nat.le_of_ble_eq_true rfl) hRc), (Nat.le_trans (Nat.le_of_ble_eq_true rfl) hRs)⟩) hS (fun q _ h => hFc q h) hFc (fun r_77 M_78 t H_76 locs ht hvm hw hB hz1 hk1 hS => ?_)
            have hp_79 := hw
            obtain ⟨hP1, hK1, hD1⟩ := hB
            rw [ht] at hP1
            obtain ⟨hP, hD⟩ := va_joinQ (X := [(za, .inr (13, [.int 0, .ref z1, .int (nI z2), .int (nI (z3 + 1)), .int z4, .int z5, .ref z6, .ref z7, .ref z8, .ref z9, .int (nI z10), .ref z11, .ref z12, .ref z13, .ref z14, .ref z15, .int (nI z16), .ref z17, .int z18, .ref z19]))]) (cx := [(za, .inr (13, [.int 0, .ref z1, .int (nI z2), .int (nI (z3 + 1)), .int z4, .int z5, .ref z6, .ref z7, .ref z8, .ref z9, .int (nI z10), .ref z11, .ref z12, .ref z13, .ref z14, .ref z15, .int (nI z16), .ref z17, .int z18, .ref z19]))]) (wr := []) (w1 := [(za, .inr (13, [.int 0, .ref z1, .int (nI z2), .int (nI (z3 + 1)), .int 0, .int (-1), .ref z6, .ref z7, .ref z8, .ref z9, .int (nI z10), .ref z11, .ref z12, .ref z13, .ref z14, .ref z15, .int (nI z16), .ref z17, .int z18, .ref z19]))]) (pl := va_pl L M_69) hP hD [0] [] rfl rfl (by decide) (by decide) hk1 hFc hP1 hD1
            have hP : va_P D vwCl ([(za, .inr (13, [.int 0, .ref z1, .int (nI z2), .int (nI (z3 + 1)), .int 0, .int (-1), .ref z6, .ref z7, .ref z8, .ref z9, .int (nI z10), .ref z11, .ref z12, .ref z13, .ref z14, .ref z15, .int (nI z16), .ref z17, .int z18, .ref z19]))] ++ va_pl L M_69) H_76 := hP
            have hD : va_D A ([(za, .inr (13, [.int 0, .ref z1, .int (nI z2), .int (nI (z3 + 1)), .int 0, .int (-1), .ref z6, .ref z7, .ref z8, .ref z9, .int (nI z10), .ref z11, .ref z12, .ref z13, .ref z14, .ref z15, .int (nI z16), .ref z17, .int z18, .ref z19]))] ++ va_pl L M_69) := hD
            have hq := Eq.symm hp_79
            subst hq
            rw [hQ]
            exact W.iret (v := (nI ((z3 + 1) - 1))) hx hb hr (fun t ht hW9 => ⟨⟨(nI ((z3 + 1) - 1)), M_69, rfl, ⟨hW, hF, trivial⟩, ⟨(z3 + 1), 0, (-1), (by omega), by rw [ht]; exact hP, hD⟩⟩, hS.F ht⟩) hS.2.2 dX13_partner_130
          · have hz := rfl (a := 0)
            have n_80 : z3 = 40 := (iEQ (a := z3) (b := 40) (by omega) (by omega)).mp c_57
            refine lv_aload_n hx hb dX13_partner_83 rfl (lv_at hl 1 rfl) ?_
            refine lv_bipush (v := 9) hx hb dX13_partner_84 (by decide) ?_
            have hPc := hP.sub (ws' := [(za, .inr (13, [.int 0, .ref z1, .int (nI z2), .int (nI z3), .int z4, .int z5, .ref z6, .ref z7, .ref z8, .ref z9, .int (nI z10), .ref z11, .ref z12, .ref z13, .ref z14, .ref z15, .int (nI z16), .ref z17, .int z18, .ref z19]))]) [0] rfl
            have hDc := hD.sub (ws' := [(za, .inr (13, [.int 0, .ref z1, .int (nI z2), .int (nI z3), .int z4, .int z5, .ref z6, .ref z7, .ref z8, .ref z9, .int (nI z10), .ref z11, .ref z12, .ref z13, .ref z14, .ref z15, .int (nI z16), .ref z17, .int z18, .ref z19]))]) [0] (by decide) rfl
            have hKc := hK.sub (tys' := []) [] rfl
            have hFc := va_free (wc := [(za, .inr (13, [.int 0, .ref z1, .int (nI z2), .int (nI z3), .int z4, .int z5, .ref z6, .ref z7, .ref z8, .ref z9, .int (nI z10), .ref z11, .ref z12, .ref z13, .ref z14, .ref z15, .int (nI z16), .ref z17, .int z18, .ref z19]))]) hD hS hA [0] rfl
            refine va_calli (va_runV (As := [.int 9]) (rest := []) ⟨hx, hb, hml, hown, hg⟩ (m_refused l D H_1.size za 0 z1 (nI z2) (nI z3) z4 z5 z6 z7 z8 z9 (nI z10) z11 z12 z13 z14 z15 (nI z16) z17 z18 z19 9) (cwV 1 hg (gV wd_725 wd_726 wd_727 wd_717 wd_728) rfl rfl rfl (by decide +kernel) ⟨(Nat.le_trans (Nat.le_of_ble_eq_true rfl) hRf), (Nat.le_trans (Nat.le_of_ble_eq_true rfl) hRl)⟩) ⟨Pr.blind, va_recv hK hP (ci := 13) (q0 := 0) rfl rfl, fun U hU hW => ⟨rfl, Pr.at hPc hKc hDc hN hU hW⟩⟩ rfl rfl hl.1 rfl (lv_room (Nat.le_of_ble_eq_true rfl)) dX13_partner_86 ⟨(Nat.le_trans (Nat.le_of_ble_eq_true rfl) hRc), (Nat.le_trans (Nat.le_of_ble_eq_true rfl) hRs)⟩) hS (fun q _ h => hFc q h) hFc (fun r_82 M_83 t H_81 locs ht hvm hw hB hz1 hk1 hS => ?_)
            have hp_84 := hw
            obtain ⟨hP1, hK1, hD1⟩ := hB
            rw [ht] at hP1
            obtain ⟨hP, hD⟩ := va_joinQ (X := [(za, .inr (13, [.int 0, .ref z1, .int (nI z2), .int (nI z3), .int z4, .int z5, .ref z6, .ref z7, .ref z8, .ref z9, .int (nI z10), .ref z11, .ref z12, .ref z13, .ref z14, .ref z15, .int (nI z16), .ref z17, .int z18, .ref z19]))]) (cx := [(za, .inr (13, [.int 0, .ref z1, .int (nI z2), .int (nI z3), .int z4, .int z5, .ref z6, .ref z7, .ref z8, .ref z9, .int (nI z10), .ref z11, .ref z12, .ref z13, .ref z14, .ref z15, .int (nI z16), .ref z17, .int z18, .ref z19]))]) (wr := []) (w1 := [(za, .inr (13, [.int 0, .ref z1, .int (nI z2), .int (nI z3), .int 9, .int (-1), .ref z6, .ref z7, .ref z8, .ref z9, .int (nI z10), .ref z11, .ref z12, .ref z13, .ref z14, .ref z15, .int (nI z16), .ref z17, .int z18, .ref z19]))]) (pl := va_pl L M) hP hD [0] [] rfl rfl (by decide) (by decide) hk1 hFc hP1 hD1
            have hP : va_P D vwCl ([(za, .inr (13, [.int 0, .ref z1, .int (nI z2), .int (nI z3), .int 9, .int (-1), .ref z6, .ref z7, .ref z8, .ref z9, .int (nI z10), .ref z11, .ref z12, .ref z13, .ref z14, .ref z15, .int (nI z16), .ref z17, .int z18, .ref z19]))] ++ va_pl L M) H_81 := hP
            have hD : va_D A ([(za, .inr (13, [.int 0, .ref z1, .int (nI z2), .int (nI z3), .int 9, .int (-1), .ref z6, .ref z7, .ref z8, .ref z9, .int (nI z10), .ref z11, .ref z12, .ref z13, .ref z14, .ref z15, .int (nI z16), .ref z17, .int z18, .ref z19]))] ++ va_pl L M) := hD
            have hq := Eq.symm hp_84
            subst hq
            rw [hQ]
            exact W.iret (v := (-1)) hx hb hr (fun t ht hW9 => ⟨⟨(-1), M, rfl, ⟨hW, hF, trivial⟩, ⟨z3, 9, (-1), (by omega), by rw [ht]; exact hP, hD⟩⟩, hS.F ht⟩) hS.2.2 dX13_partner_89
        · have hz := rfl (a := 0)
          have n_85 : ¬ k2 < 0 := gtN (c := 1000000000) (by omega) (Int32.not_le.mp c_55)
          refine lv_aload_n hx hb dX13_partner_49 rfl (lv_at hl 1 rfl) ?_
          refine lv_iconst (v := 2) hx hb dX13_partner_50 (by decide) ?_
          have hPc := hP.sub (ws' := [(za, .inr (13, [.int 0, .ref z1, .int (nI z2), .int (nI z3), .int z4, .int z5, .ref z6, .ref z7, .ref z8, .ref z9, .int (nI z10), .ref z11, .ref z12, .ref z13, .ref z14, .ref z15, .int (nI z16), .ref z17, .int z18, .ref z19]))]) [0] rfl
          have hDc := hD.sub (ws' := [(za, .inr (13, [.int 0, .ref z1, .int (nI z2), .int (nI z3), .int z4, .int z5, .ref z6, .ref z7, .ref z8, .ref z9, .int (nI z10), .ref z11, .ref z12, .ref z13, .ref z14, .ref z15, .int (nI z16), .ref z17, .int z18, .ref z19]))]) [0] (by decide) rfl
          have hKc := hK.sub (tys' := []) [] rfl
          have hFc := va_free (wc := [(za, .inr (13, [.int 0, .ref z1, .int (nI z2), .int (nI z3), .int z4, .int z5, .ref z6, .ref z7, .ref z8, .ref z9, .int (nI z10), .ref z11, .ref z12, .ref z13, .ref z14, .ref z15, .int (nI z16), .ref z17, .int z18, .ref z19]))]) hD hS hA [0] rfl
          refine va_calli (va_runV (As := [.int 2]) (rest := []) ⟨hx, hb, hml, hown, hg⟩ (m_refused l D H_1.size za 0 z1 (nI z2) (nI z3) z4 z5 z6 z7 z8 z9 (nI z10) z11 z12 z13 z14 z15 (nI z16) z17 z18 z19 2) (cwV 1 hg (gV wd_725 wd_726 wd_727 wd_717 wd_728) rfl rfl rfl (by decide +kernel) ⟨(Nat.le_trans (Nat.le_of_ble_eq_true rfl) hRf), (Nat.le_trans (Nat.le_of_ble_eq_true rfl) hRl)⟩) ⟨Pr.blind, va_recv hK hP (ci := 13) (q0 := 0) rfl rfl, fun U hU hW => ⟨rfl, Pr.at hPc hKc hDc hN hU hW⟩⟩ rfl rfl hl.1 rfl (lv_room (Nat.le_of_ble_eq_true rfl)) dX13_partner_51 ⟨(Nat.le_trans (Nat.le_of_ble_eq_true rfl) hRc), (Nat.le_trans (Nat.le_of_ble_eq_true rfl) hRs)⟩) hS (fun q _ h => hFc q h) hFc (fun r_87 M_88 t H_86 locs ht hvm hw hB hz1 hk1 hS => ?_)
          have hp_89 := hw
          obtain ⟨hP1, hK1, hD1⟩ := hB
          rw [ht] at hP1
          obtain ⟨hP, hD⟩ := va_joinQ (X := [(za, .inr (13, [.int 0, .ref z1, .int (nI z2), .int (nI z3), .int z4, .int z5, .ref z6, .ref z7, .ref z8, .ref z9, .int (nI z10), .ref z11, .ref z12, .ref z13, .ref z14, .ref z15, .int (nI z16), .ref z17, .int z18, .ref z19]))]) (cx := [(za, .inr (13, [.int 0, .ref z1, .int (nI z2), .int (nI z3), .int z4, .int z5, .ref z6, .ref z7, .ref z8, .ref z9, .int (nI z10), .ref z11, .ref z12, .ref z13, .ref z14, .ref z15, .int (nI z16), .ref z17, .int z18, .ref z19]))]) (wr := []) (w1 := [(za, .inr (13, [.int 0, .ref z1, .int (nI z2), .int (nI z3), .int 2, .int (-1), .ref z6, .ref z7, .ref z8, .ref z9, .int (nI z10), .ref z11, .ref z12, .ref z13, .ref z14, .ref z15, .int (nI z16), .ref z17, .int z18, .ref z19]))]) (pl := va_pl L M) hP hD [0] [] rfl rfl (by decide) (by decide) hk1 hFc hP1 hD1
          have hP : va_P D vwCl ([(za, .inr (13, [.int 0, .ref z1, .int (nI z2), .int (nI z3), .int 2, .int (-1), .ref z6, .ref z7, .ref z8, .ref z9, .int (nI z10), .ref z11, .ref z12, .ref z13, .ref z14, .ref z15, .int (nI z16), .ref z17, .int z18, .ref z19]))] ++ va_pl L M) H_86 := hP
          have hD : va_D A ([(za, .inr (13, [.int 0, .ref z1, .int (nI z2), .int (nI z3), .int 2, .int (-1), .ref z6, .ref z7, .ref z8, .ref z9, .int (nI z10), .ref z11, .ref z12, .ref z13, .ref z14, .ref z15, .int (nI z16), .ref z17, .int z18, .ref z19]))] ++ va_pl L M) := hD
          have hq := Eq.symm hp_89
          subst hq
          rw [hQ]
          exact W.iret (v := (-1)) hx hb hr (fun t ht hW9 => ⟨⟨(-1), M, rfl, ⟨hW, hF, trivial⟩, ⟨z3, 2, (-1), (by omega), by rw [ht]; exact hP, hD⟩⟩, hS.F ht⟩) hS.2.2 dX13_partner_54
    · have hz := rfl (a := 0)
      refine lv_iload_n hx hb dX13_partner_15 rfl (lv_at hl 1 rfl) ?_
      refine lv_iconst (v := 4) hx hb dX13_partner_16 (by decide) ?_
      refine lv_icmp_ne (tgt := 24) hx hb dX13_partner_17 (by decide) (fun c_90 => ?_) (fun c_90 => ?_)
      · have hz := rfl (a := 0)
        refine lv_iconst (v := 0) hx hb dX13_partner_24 (by decide) ?_
        refine lv_istore_n (lv' := [(3, .int 0), (0, .ref za), (1, .int k1), (2, .int k2)]) hx hb dX13_partner_25 rfl hl (by decide) rfl (fun ls hl => ?_)
        refine lv_iload_n hx hb dX13_partner_26 rfl (lv_at hl 2 rfl) ?_
        refine lv_if_lt (tgt := 49) hx hb dX13_partner_27 (by decide) (fun c_91 => ?_) (fun c_91 => ?_)
        · have hz := rfl (a := 0)
          refine lv_aload_n hx hb dX13_partner_49 rfl (lv_at hl 1 rfl) ?_
          refine lv_iconst (v := 2) hx hb dX13_partner_50 (by decide) ?_
          have hPc := hP.sub (ws' := [(za, .inr (13, [.int 0, .ref z1, .int (nI z2), .int (nI z3), .int z4, .int z5, .ref z6, .ref z7, .ref z8, .ref z9, .int (nI z10), .ref z11, .ref z12, .ref z13, .ref z14, .ref z15, .int (nI z16), .ref z17, .int z18, .ref z19]))]) [0] rfl
          have hDc := hD.sub (ws' := [(za, .inr (13, [.int 0, .ref z1, .int (nI z2), .int (nI z3), .int z4, .int z5, .ref z6, .ref z7, .ref z8, .ref z9, .int (nI z10), .ref z11, .ref z12, .ref z13, .ref z14, .ref z15, .int (nI z16), .ref z17, .int z18, .ref z19]))]) [0] (by decide) rfl
          have hKc := hK.sub (tys' := []) [] rfl
          have hFc := va_free (wc := [(za, .inr (13, [.int 0, .ref z1, .int (nI z2), .int (nI z3), .int z4, .int z5, .ref z6, .ref z7, .ref z8, .ref z9, .int (nI z10), .ref z11, .ref z12, .ref z13, .ref z14, .ref z15, .int (nI z16), .ref z17, .int z18, .ref z19]))]) hD hS hA [0] rfl
          refine va_calli (va_runV (As := [.int 2]) (rest := []) ⟨hx, hb, hml, hown, hg⟩ (m_refused l D H_1.size za 0 z1 (nI z2) (nI z3) z4 z5 z6 z7 z8 z9 (nI z10) z11 z12 z13 z14 z15 (nI z16) z17 z18 z19 2) (cwV 1 hg (gV wd_725 wd_726 wd_727 wd_717 wd_728) rfl rfl rfl (by decide +kernel) ⟨(Nat.le_trans (Nat.le_of_ble_eq_true rfl) hRf), (Nat.le_trans (Nat.le_of_ble_eq_true rfl) hRl)⟩) ⟨Pr.blind, va_recv hK hP (ci := 13) (q0 := 0) rfl rfl, fun U hU hW => ⟨rfl, Pr.at hPc hKc hDc hN hU hW⟩⟩ rfl rfl hl.1 rfl (lv_room (Nat.le_of_ble_eq_true rfl)) dX13_partner_51 ⟨(Nat.le_trans (Nat.le_of_ble_eq_true rfl) hRc), (Nat.le_trans (Nat.le_of_ble_eq_true rfl) hRs)⟩) hS (fun q _ h => hFc q h) hFc (fun r_93 M_94 t H_92 locs ht hvm hw hB hz1 hk1 hS => ?_)
          have hp_95 := hw
          obtain ⟨hP1, hK1, hD1⟩ := hB
          rw [ht] at hP1
          obtain ⟨hP, hD⟩ := va_joinQ (X := [(za, .inr (13, [.int 0, .ref z1, .int (nI z2), .int (nI z3), .int z4, .int z5, .ref z6, .ref z7, .ref z8, .ref z9, .int (nI z10), .ref z11, .ref z12, .ref z13, .ref z14, .ref z15, .int (nI z16), .ref z17, .int z18, .ref z19]))]) (cx := [(za, .inr (13, [.int 0, .ref z1, .int (nI z2), .int (nI z3), .int z4, .int z5, .ref z6, .ref z7, .ref z8, .ref z9, .int (nI z10), .ref z11, .ref z12, .ref z13, .ref z14, .ref z15, .int (nI z16), .ref z17, .int z18, .ref z19]))]) (wr := []) (w1 := [(za, .inr (13, [.int 0, .ref z1, .int (nI z2), .int (nI z3), .int 2, .int (-1), .ref z6, .ref z7, .ref z8, .ref z9, .int (nI z10), .ref z11, .ref z12, .ref z13, .ref z14, .ref z15, .int (nI z16), .ref z17, .int z18, .ref z19]))]) (pl := va_pl L M) hP hD [0] [] rfl rfl (by decide) (by decide) hk1 hFc hP1 hD1
          have hP : va_P D vwCl ([(za, .inr (13, [.int 0, .ref z1, .int (nI z2), .int (nI z3), .int 2, .int (-1), .ref z6, .ref z7, .ref z8, .ref z9, .int (nI z10), .ref z11, .ref z12, .ref z13, .ref z14, .ref z15, .int (nI z16), .ref z17, .int z18, .ref z19]))] ++ va_pl L M) H_92 := hP
          have hD : va_D A ([(za, .inr (13, [.int 0, .ref z1, .int (nI z2), .int (nI z3), .int 2, .int (-1), .ref z6, .ref z7, .ref z8, .ref z9, .int (nI z10), .ref z11, .ref z12, .ref z13, .ref z14, .ref z15, .int (nI z16), .ref z17, .int z18, .ref z19]))] ++ va_pl L M) := hD
          have hq := Eq.symm hp_95
          subst hq
          rw [hQ]
          exact W.iret (v := (-1)) hx hb hr (fun t ht hW9 => ⟨⟨(-1), M, rfl, ⟨hW, hF, trivial⟩, ⟨z3, 2, (-1), (by omega), by rw [ht]; exact hP, hD⟩⟩, hS.F ht⟩) hS.2.2 dX13_partner_54
        · have hz := rfl (a := 0)
          refine lv_iload_n hx hb dX13_partner_30 rfl (lv_at hl 2 rfl) ?_
          refine lv_iconst (v := 5) hx hb dX13_partner_31 (by decide) ?_
          refine lv_icmp_gt (tgt := 49) hx hb dX13_partner_32 (by decide) (fun c_96 => ?_) (fun c_96 => ?_)
          · have hz := rfl (a := 0)
            have n_97 : ¬ k1 < 0 := gtN (c := 5) (by omega) c_96
            refine lv_aload_n hx hb dX13_partner_49 rfl (lv_at hl 1 rfl) ?_
            refine lv_iconst (v := 2) hx hb dX13_partner_50 (by decide) ?_
            have hPc := hP.sub (ws' := [(za, .inr (13, [.int 0, .ref z1, .int (nI z2), .int (nI z3), .int z4, .int z5, .ref z6, .ref z7, .ref z8, .ref z9, .int (nI z10), .ref z11, .ref z12, .ref z13, .ref z14, .ref z15, .int (nI z16), .ref z17, .int z18, .ref z19]))]) [0] rfl
            have hDc := hD.sub (ws' := [(za, .inr (13, [.int 0, .ref z1, .int (nI z2), .int (nI z3), .int z4, .int z5, .ref z6, .ref z7, .ref z8, .ref z9, .int (nI z10), .ref z11, .ref z12, .ref z13, .ref z14, .ref z15, .int (nI z16), .ref z17, .int z18, .ref z19]))]) [0] (by decide) rfl
            have hKc := hK.sub (tys' := []) [] rfl
            have hFc := va_free (wc := [(za, .inr (13, [.int 0, .ref z1, .int (nI z2), .int (nI z3), .int z4, .int z5, .ref z6, .ref z7, .ref z8, .ref z9, .int (nI z10), .ref z11, .ref z12, .ref z13, .ref z14, .ref z15, .int (nI z16), .ref z17, .int z18, .ref z19]))]) hD hS hA [0] rfl
            refine va_calli (va_runV (As := [.int 2]) (rest := []) ⟨hx, hb, hml, hown, hg⟩ (m_refused l D H_1.size za 0 z1 (nI z2) (nI z3) z4 z5 z6 z7 z8 z9 (nI z10) z11 z12 z13 z14 z15 (nI z16) z17 z18 z19 2) (cwV 1 hg (gV wd_725 wd_726 wd_727 wd_717 wd_728) rfl rfl rfl (by decide +kernel) ⟨(Nat.le_trans (Nat.le_of_ble_eq_true rfl) hRf), (Nat.le_trans (Nat.le_of_ble_eq_true rfl) hRl)⟩) ⟨Pr.blind, va_recv hK hP (ci := 13) (q0 := 0) rfl rfl, fun U hU hW => ⟨rfl, Pr.at hPc hKc hDc hN hU hW⟩⟩ rfl rfl hl.1 rfl (lv_room (Nat.le_of_ble_eq_true rfl)) dX13_partner_51 ⟨(Nat.le_trans (Nat.le_of_ble_eq_true rfl) hRc), (Nat.le_trans (Nat.le_of_ble_eq_true rfl) hRs)⟩) hS (fun q _ h => hFc q h) hFc (fun r_99 M_100 t H_98 locs ht hvm hw hB hz1 hk1 hS => ?_)
            have hp_101 := hw
            obtain ⟨hP1, hK1, hD1⟩ := hB
            rw [ht] at hP1
            obtain ⟨hP, hD⟩ := va_joinQ (X := [(za, .inr (13, [.int 0, .ref z1, .int (nI z2), .int (nI z3), .int z4, .int z5, .ref z6, .ref z7, .ref z8, .ref z9, .int (nI z10), .ref z11, .ref z12, .ref z13, .ref z14, .ref z15, .int (nI z16), .ref z17, .int z18, .ref z19]))]) (cx := [(za, .inr (13, [.int 0, .ref z1, .int (nI z2), .int (nI z3), .int z4, .int z5, .ref z6, .ref z7, .ref z8, .ref z9, .int (nI z10), .ref z11, .ref z12, .ref z13, .ref z14, .ref z15, .int (nI z16), .ref z17, .int z18, .ref z19]))]) (wr := []) (w1 := [(za, .inr (13, [.int 0, .ref z1, .int (nI z2), .int (nI z3), .int 2, .int (-1), .ref z6, .ref z7, .ref z8, .ref z9, .int (nI z10), .ref z11, .ref z12, .ref z13, .ref z14, .ref z15, .int (nI z16), .ref z17, .int z18, .ref z19]))]) (pl := va_pl L M) hP hD [0] [] rfl rfl (by decide) (by decide) hk1 hFc hP1 hD1
            have hP : va_P D vwCl ([(za, .inr (13, [.int 0, .ref z1, .int (nI z2), .int (nI z3), .int 2, .int (-1), .ref z6, .ref z7, .ref z8, .ref z9, .int (nI z10), .ref z11, .ref z12, .ref z13, .ref z14, .ref z15, .int (nI z16), .ref z17, .int z18, .ref z19]))] ++ va_pl L M) H_98 := hP
            have hD : va_D A ([(za, .inr (13, [.int 0, .ref z1, .int (nI z2), .int (nI z3), .int 2, .int (-1), .ref z6, .ref z7, .ref z8, .ref z9, .int (nI z10), .ref z11, .ref z12, .ref z13, .ref z14, .ref z15, .int (nI z16), .ref z17, .int z18, .ref z19]))] ++ va_pl L M) := hD
            have hq := Eq.symm hp_101
            subst hq
            rw [hQ]
            exact W.iret (v := (-1)) hx hb hr (fun t ht hW9 => ⟨⟨(-1), M, rfl, ⟨hW, hF, trivial⟩, ⟨z3, 2, (-1), (by omega), by rw [ht]; exact hP, hD⟩⟩, hS.F ht⟩) hS.2.2 dX13_partner_54
          · have hz := rfl (a := 0)
            refine lv_iload_n hx hb dX13_partner_35 rfl (lv_at hl 0 rfl) ?_
            refine lv_if_eq (tgt := 55) hx hb dX13_partner_36 (by decide) (fun _ => ?_) (fun c_102 => absurd c_102 (by decide))
            refine lv_iload_n hx hb dX13_partner_55 rfl (lv_at hl 2 rfl) ?_
            refine lv_iconst (v := 5) hx hb dX13_partner_56 (by decide) ?_
            refine lv_icmp_ne (tgt := 74) hx hb dX13_partner_57 (by decide) (fun c_103 => ?_) (fun c_103 => ?_)
            · have hz := rfl (a := 0)
              refine lv_aload_n hx hb dX13_partner_74 rfl (lv_at hl 1 rfl) ?_
              refine va_get (D := D) (ci := 13) (v := .int (nI z3)) (C := RX13) (T := TX13) (N := 20) hx hb hg inG13 hown hK hP 0 rfl rfl 3 (by decide) (hg _ wd_831) (fun _ h9 => h9) rfl dX13_partner_75 ?_
              refine lv_bipush (v := 40) hx hb dX13_partner_78 (by decide) ?_
              refine lv_icmp_ne (tgt := 90) hx hb dX13_partner_80 (by decide) (fun c_104 => ?_) (fun c_104 => ?_)
              · have hz := rfl (a := 0)
                have n_105 : ¬ (z3 = 40) := fun q => c_104 ((iEQ (a := z3) (b := 40) (by omega) (by omega)).mpr q)
                refine lv_aload_n hx hb dX13_partner_90 rfl (lv_at hl 1 rfl) ?_
                refine va_get (D := D) (ci := 13) (v := .ref z6) (C := RX13) (T := TX13) (N := 20) hx hb hg inG13 hown hK hP 0 rfl rfl 6 (by decide) (hg _ wd_719) (fun _ h9 => h9) rfl dX13_partner_91 ?_
                refine lv_aload_n hx hb dX13_partner_94 rfl (lv_at hl 1 rfl) ?_
                refine va_get (D := D) (ci := 13) (v := .int (nI z3)) (C := RX13) (T := TX13) (N := 20) hx hb hg inG13 hown hK hP 0 rfl rfl 3 (by decide) (hg _ wd_831) (fun _ h9 => h9) rfl dX13_partner_95 ?_
                refine lv_iload_n hx hb dX13_partner_98 rfl (lv_at hl 2 rfl) ?_
                obtain ⟨j_106, hj_107, rfl⟩ := i32nat 6 (by decide) c_91 (leB (b := 6) (c := 5) (by decide) (by decide) (Int32.not_lt.mp c_96))
                obtain ⟨f108, hM108, hf108⟩ := hW.open_47 i6
                refine pg_iast hx hb hK hP hD hS i6.1 0 hM108 rfl (inbN z3 40 (by omega) (by omega)) dX13_partner_99 (fun H_109 locs hP hD hS => ?_)
                obtain ⟨M_110, eM_110⟩ : ∃ M1 : Hp, M1 = va_up M z6 (.inl (cy 14, 40, .inl (upd f108 ((nI z3) : Int32).toNatClampNeg (nI j_106)))) := ⟨_, rfl⟩
                have hP : va_P D vwCl ([(za, .inr (13, [.int 0, .ref z1, .int (nI z2), .int (nI z3), .int z4, .int z5, .ref z6, .ref z7, .ref z8, .ref z9, .int (nI z10), .ref z11, .ref z12, .ref z13, .ref z14, .ref z15, .int (nI z16), .ref z17, .int z18, .ref z19]))] ++ va_pl L M_110) H_109 := by rw [eM_110]; exact hP
                have hD : va_D A ([(za, .inr (13, [.int 0, .ref z1, .int (nI z2), .int (nI z3), .int z4, .int z5, .ref z6, .ref z7, .ref z8, .ref z9, .int (nI z10), .ref z11, .ref z12, .ref z13, .ref z14, .ref z15, .int (nI z16), .ref z17, .int z18, .ref z19]))] ++ va_pl L M_110) := by rw [eM_110]; exact hD
                have hW : WOM cy K L M_110 := by rw [eM_110]; exact hW.up_47 i6 ⟨_, rfl, (updP (P := fun z => ∃ c : Nat, c < 6 ∧ z = nI c) hf108 ⟨j_106, by omega, rfl⟩)⟩
                have hF : fr K L [47, 48] M M_110 := by rw [eM_110]; exact hF.up i6 (by decide)
                have hM_111 : M_110 z6 = .inl (cy 14, 40, .inl (upd f108 ((nI z3) : Int32).toNatClampNeg (nI j_106))) := by rw [eM_110]; exact va_up_self _ _ _
                have hf_113 : ∀ j, j < 40 → ∃ c : Nat, c < 6 ∧ (upd f108 ((nI z3) : Int32).toNatClampNeg (nI j_106)) j = nI c := (updP (P := fun z => ∃ c : Nat, c < 6 ∧ z = nI c) hf108 ⟨j_106, by omega, rfl⟩)
                obtain ⟨f_112, ef_112⟩ : ∃ f : Nat → Int32, f = upd f108 ((nI z3) : Int32).toNatClampNeg (nI j_106) := ⟨_, rfl⟩
                rw [← ef_112] at hM_111 hf_113
                clear ef_112
                refine lv_aload_n hx hb dX13_partner_100 rfl (lv_at hl 1 rfl) ?_
                refine va_get (D := D) (ci := 13) (v := .ref z7) (C := RX13) (T := TX13) (N := 20) hx hb hg inG13 hown hK hP 0 rfl rfl 7 (by decide) (hg _ wd_760) (fun _ h9 => h9) rfl dX13_partner_101 ?_
                refine lv_aload_n hx hb dX13_partner_104 rfl (lv_at hl 1 rfl) ?_
                refine va_get (D := D) (ci := 13) (v := .int (nI z3)) (C := RX13) (T := TX13) (N := 20) hx hb hg inG13 hown hK hP 0 rfl rfl 3 (by decide) (hg _ wd_831) (fun _ h9 => h9) rfl dX13_partner_105 ?_
                refine lv_iload_n hx hb dX13_partner_108 rfl (lv_at hl 3 rfl) ?_
                obtain ⟨f114, hM114⟩ := hW.open_48 i7
                refine pg_iast hx hb hK hP hD hS i7.1 0 hM114 rfl (inbN z3 40 (by omega) (by omega)) dX13_partner_109 (fun H_115 locs hP hD hS => ?_)
                obtain ⟨M_116, eM_116⟩ : ∃ M1 : Hp, M1 = va_up M_110 z7 (.inl (cy 14, 40, .inl (upd f114 ((nI z3) : Int32).toNatClampNeg k2))) := ⟨_, rfl⟩
                have hP : va_P D vwCl ([(za, .inr (13, [.int 0, .ref z1, .int (nI z2), .int (nI z3), .int z4, .int z5, .ref z6, .ref z7, .ref z8, .ref z9, .int (nI z10), .ref z11, .ref z12, .ref z13, .ref z14, .ref z15, .int (nI z16), .ref z17, .int z18, .ref z19]))] ++ va_pl L M_116) H_115 := by rw [eM_116]; exact hP
                have hD : va_D A ([(za, .inr (13, [.int 0, .ref z1, .int (nI z2), .int (nI z3), .int z4, .int z5, .ref z6, .ref z7, .ref z8, .ref z9, .int (nI z10), .ref z11, .ref z12, .ref z13, .ref z14, .ref z15, .int (nI z16), .ref z17, .int z18, .ref z19]))] ++ va_pl L M_116) := by rw [eM_116]; exact hD
                have hW : WOM cy K L M_116 := by rw [eM_116]; exact hW.up_48 i7 ⟨_, rfl⟩
                have hF : fr K L [47, 48] M M_116 := by rw [eM_116]; exact hF.up i7 (by decide)
                have hM_117 : M_116 z7 = .inl (cy 14, 40, .inl (upd f114 ((nI z3) : Int32).toNatClampNeg k2)) := by rw [eM_116]; exact va_up_self _ _ _
                have hM_118 : M_116 z6 = .inl (cy 14, 40, .inl (f_112)) := by rw [eM_116, va_up_ne _ _ (i6.neT i7 (by decide))]; exact hM_111
                obtain ⟨f_119, ef_119⟩ : ∃ f : Nat → Int32, f = upd f114 ((nI z3) : Int32).toNatClampNeg k2 := ⟨_, rfl⟩
                rw [← ef_119] at hM_117
                clear ef_119
                refine lv_aload_n hx hb dX13_partner_110 rfl (lv_at hl 1 rfl) ?_
                refine lv_dup hx hb dX13_partner_111 rfl ?_
                refine va_get (D := D) (ci := 13) (v := .int (nI z3)) (C := RX13) (T := TX13) (N := 20) hx hb hg inG13 hown hK hP 0 rfl rfl 3 (by decide) (hg _ wd_831) (fun _ h9 => h9) rfl dX13_partner_112 ?_
                refine lv_iconst (v := 1) hx hb dX13_partner_115 (by decide) ?_
                refine lv_iadd hx hb dX13_partner_116 ?_
                refine lv_topi (fun f_120 ef_120 => ?_)
                obtain rfl : f_120 = (nI (z3 + 1)) := ef_120.trans (nI_add z3 1)
                refine va_put (D := D) (ci := 13) (v := .int (nI (z3 + 1))) (ty := .int) (C := RX13) (T := TX13) (N := 20) hx hb hg inG13 tyX13 tyX13_ok nmX13 hown hK hP hD hS 0 rfl rfl 3 (by decide) (hg _ wd_831) (fun _ h9 => h9) rfl (by decide +kernel) rfl rfl (Nat.le_of_ble_eq_true rfl) dX13_partner_117 (fun H_121 locs hP hD hS => ?_)
                have hP : va_P D vwCl ([(za, .inr (13, [.int 0, .ref z1, .int (nI z2), .int (nI (z3 + 1)), .int z4, .int z5, .ref z6, .ref z7, .ref z8, .ref z9, .int (nI z10), .ref z11, .ref z12, .ref z13, .ref z14, .ref z15, .int (nI z16), .ref z17, .int z18, .ref z19]))] ++ va_pl L M_116) H_121 := hP
                have hD : va_D A ([(za, .inr (13, [.int 0, .ref z1, .int (nI z2), .int (nI (z3 + 1)), .int z4, .int z5, .ref z6, .ref z7, .ref z8, .ref z9, .int (nI z10), .ref z11, .ref z12, .ref z13, .ref z14, .ref z15, .int (nI z16), .ref z17, .int z18, .ref z19]))] ++ va_pl L M_116) := hD
                refine lv_aload_n hx hb dX13_partner_120 rfl (lv_at hl 1 rfl) ?_
                refine lv_aload_n hx hb dX13_partner_121 rfl (lv_at hl 1 rfl) ?_
                refine va_get (D := D) (ci := 13) (v := .int (nI (z3 + 1))) (C := RX13) (T := TX13) (N := 20) hx hb hg inG13 hown hK hP 0 rfl rfl 3 (by decide) (hg _ wd_831) (fun _ h9 => h9) rfl dX13_partner_122 ?_
                refine lv_iconst (v := 1) hx hb dX13_partner_125 (by decide) ?_
                refine lv_isub hx hb dX13_partner_126 ?_
                refine lv_topi (fun f_122 ef_122 => ?_)
                obtain rfl : f_122 = (nI ((z3 + 1) - 1)) := ef_122.trans (nI_prd (by omega))
                have hPc := hP.sub (ws' := [(za, .inr (13, [.int 0, .ref z1, .int (nI z2), .int (nI (z3 + 1)), .int z4, .int z5, .ref z6, .ref z7, .ref z8, .ref z9, .int (nI z10), .ref z11, .ref z12, .ref z13, .ref z14, .ref z15, .int (nI z16), .ref z17, .int z18, .ref z19]))]) [0] rfl
                have hDc := hD.sub (ws' := [(za, .inr (13, [.int 0, .ref z1, .int (nI z2), .int (nI (z3 + 1)), .int z4, .int z5, .ref z6, .ref z7, .ref z8, .ref z9, .int (nI z10), .ref z11, .ref z12, .ref z13, .ref z14, .ref z15, .int (nI z16), .ref z17, .int z18, .ref z19]))]) [0] (by decide) rfl
                have hKc := hK.sub (tys' := []) [] rfl
                have hFc := va_free (wc := [(za, .inr (13, [.int 0, .ref z1, .int (nI z2), .int (nI (z3 + 1)), .int z4, .int z5, .ref z6, .ref z7, .ref z8, .ref z9, .int (nI z10), .ref z11, .ref z12, .ref z13, .ref z14, .ref z15, .int (nI z16), .ref z17, .int z18, .ref z19]))]) hD hS hA [0] rfl
                refine va_calli (va_runV (As := [.int (nI ((z3 + 1) - 1))]) (rest := []) ⟨hx, hb, hml, hown, hg⟩ (m_done l D H_121.size za 0 z1 (nI z2) (nI (z3 + 1)) z4 z5 z6 z7 z8 z9 (nI z10) z11 z12 z13 z14 z15 (nI z16) z17 z18 z19 (nI ((z3 + 1) - 1))) (cwV 1 hg (gV wd_730 wd_731 wd_732 wd_717 wd_733) rfl rfl rfl (by decide +kernel) ⟨(Nat.le_trans (Nat.le_of_ble_eq_true rfl) hRf), (Nat.le_trans (Nat.le_of_ble_eq_true rfl) hRl)⟩) ⟨Pr.blind, va_recv hK hP (ci := 13) (q0 := 0) rfl rfl, fun U hU hW => ⟨rfl, Pr.at hPc hKc hDc hN hU hW⟩⟩ rfl rfl hl.1 rfl (lv_room (Nat.le_of_ble_eq_true rfl)) dX13_partner_127 ⟨(Nat.le_trans (Nat.le_of_ble_eq_true rfl) hRc), (Nat.le_trans (Nat.le_of_ble_eq_true rfl) hRs)⟩) hS (fun q _ h => hFc q h) hFc (fun r_124 M_125 t H_123 locs ht hvm hw hB hz1 hk1 hS => ?_)
                have hp_126 := hw
                obtain ⟨hP1, hK1, hD1⟩ := hB
                rw [ht] at hP1
                obtain ⟨hP, hD⟩ := va_joinQ (X := [(za, .inr (13, [.int 0, .ref z1, .int (nI z2), .int (nI (z3 + 1)), .int z4, .int z5, .ref z6, .ref z7, .ref z8, .ref z9, .int (nI z10), .ref z11, .ref z12, .ref z13, .ref z14, .ref z15, .int (nI z16), .ref z17, .int z18, .ref z19]))]) (cx := [(za, .inr (13, [.int 0, .ref z1, .int (nI z2), .int (nI (z3 + 1)), .int z4, .int z5, .ref z6, .ref z7, .ref z8, .ref z9, .int (nI z10), .ref z11, .ref z12, .ref z13, .ref z14, .ref z15, .int (nI z16), .ref z17, .int z18, .ref z19]))]) (wr := []) (w1 := [(za, .inr (13, [.int 0, .ref z1, .int (nI z2), .int (nI (z3 + 1)), .int 0, .int (-1), .ref z6, .ref z7, .ref z8, .ref z9, .int (nI z10), .ref z11, .ref z12, .ref z13, .ref z14, .ref z15, .int (nI z16), .ref z17, .int z18, .ref z19]))]) (pl := va_pl L M_116) hP hD [0] [] rfl rfl (by decide) (by decide) hk1 hFc hP1 hD1
                have hP : va_P D vwCl ([(za, .inr (13, [.int 0, .ref z1, .int (nI z2), .int (nI (z3 + 1)), .int 0, .int (-1), .ref z6, .ref z7, .ref z8, .ref z9, .int (nI z10), .ref z11, .ref z12, .ref z13, .ref z14, .ref z15, .int (nI z16), .ref z17, .int z18, .ref z19]))] ++ va_pl L M_116) H_123 := hP
                have hD : va_D A ([(za, .inr (13, [.int 0, .ref z1, .int (nI z2), .int (nI (z3 + 1)), .int 0, .int (-1), .ref z6, .ref z7, .ref z8, .ref z9, .int (nI z10), .ref z11, .ref z12, .ref z13, .ref z14, .ref z15, .int (nI z16), .ref z17, .int z18, .ref z19]))] ++ va_pl L M_116) := hD
                have hq := Eq.symm hp_126
                subst hq
                rw [hQ]
                exact W.iret (v := (nI ((z3 + 1) - 1))) hx hb hr (fun t ht hW9 => ⟨⟨(nI ((z3 + 1) - 1)), M_116, rfl, ⟨hW, hF, trivial⟩, ⟨(z3 + 1), 0, (-1), (by omega), by rw [ht]; exact hP, hD⟩⟩, hS.F ht⟩) hS.2.2 dX13_partner_130
              · have hz := rfl (a := 0)
                have n_127 : z3 = 40 := (iEQ (a := z3) (b := 40) (by omega) (by omega)).mp c_104
                refine lv_aload_n hx hb dX13_partner_83 rfl (lv_at hl 1 rfl) ?_
                refine lv_bipush (v := 9) hx hb dX13_partner_84 (by decide) ?_
                have hPc := hP.sub (ws' := [(za, .inr (13, [.int 0, .ref z1, .int (nI z2), .int (nI z3), .int z4, .int z5, .ref z6, .ref z7, .ref z8, .ref z9, .int (nI z10), .ref z11, .ref z12, .ref z13, .ref z14, .ref z15, .int (nI z16), .ref z17, .int z18, .ref z19]))]) [0] rfl
                have hDc := hD.sub (ws' := [(za, .inr (13, [.int 0, .ref z1, .int (nI z2), .int (nI z3), .int z4, .int z5, .ref z6, .ref z7, .ref z8, .ref z9, .int (nI z10), .ref z11, .ref z12, .ref z13, .ref z14, .ref z15, .int (nI z16), .ref z17, .int z18, .ref z19]))]) [0] (by decide) rfl
                have hKc := hK.sub (tys' := []) [] rfl
                have hFc := va_free (wc := [(za, .inr (13, [.int 0, .ref z1, .int (nI z2), .int (nI z3), .int z4, .int z5, .ref z6, .ref z7, .ref z8, .ref z9, .int (nI z10), .ref z11, .ref z12, .ref z13, .ref z14, .ref z15, .int (nI z16), .ref z17, .int z18, .ref z19]))]) hD hS hA [0] rfl
                refine va_calli (va_runV (As := [.int 9]) (rest := []) ⟨hx, hb, hml, hown, hg⟩ (m_refused l D H_1.size za 0 z1 (nI z2) (nI z3) z4 z5 z6 z7 z8 z9 (nI z10) z11 z12 z13 z14 z15 (nI z16) z17 z18 z19 9) (cwV 1 hg (gV wd_725 wd_726 wd_727 wd_717 wd_728) rfl rfl rfl (by decide +kernel) ⟨(Nat.le_trans (Nat.le_of_ble_eq_true rfl) hRf), (Nat.le_trans (Nat.le_of_ble_eq_true rfl) hRl)⟩) ⟨Pr.blind, va_recv hK hP (ci := 13) (q0 := 0) rfl rfl, fun U hU hW => ⟨rfl, Pr.at hPc hKc hDc hN hU hW⟩⟩ rfl rfl hl.1 rfl (lv_room (Nat.le_of_ble_eq_true rfl)) dX13_partner_86 ⟨(Nat.le_trans (Nat.le_of_ble_eq_true rfl) hRc), (Nat.le_trans (Nat.le_of_ble_eq_true rfl) hRs)⟩) hS (fun q _ h => hFc q h) hFc (fun r_129 M_130 t H_128 locs ht hvm hw hB hz1 hk1 hS => ?_)
                have hp_131 := hw
                obtain ⟨hP1, hK1, hD1⟩ := hB
                rw [ht] at hP1
                obtain ⟨hP, hD⟩ := va_joinQ (X := [(za, .inr (13, [.int 0, .ref z1, .int (nI z2), .int (nI z3), .int z4, .int z5, .ref z6, .ref z7, .ref z8, .ref z9, .int (nI z10), .ref z11, .ref z12, .ref z13, .ref z14, .ref z15, .int (nI z16), .ref z17, .int z18, .ref z19]))]) (cx := [(za, .inr (13, [.int 0, .ref z1, .int (nI z2), .int (nI z3), .int z4, .int z5, .ref z6, .ref z7, .ref z8, .ref z9, .int (nI z10), .ref z11, .ref z12, .ref z13, .ref z14, .ref z15, .int (nI z16), .ref z17, .int z18, .ref z19]))]) (wr := []) (w1 := [(za, .inr (13, [.int 0, .ref z1, .int (nI z2), .int (nI z3), .int 9, .int (-1), .ref z6, .ref z7, .ref z8, .ref z9, .int (nI z10), .ref z11, .ref z12, .ref z13, .ref z14, .ref z15, .int (nI z16), .ref z17, .int z18, .ref z19]))]) (pl := va_pl L M) hP hD [0] [] rfl rfl (by decide) (by decide) hk1 hFc hP1 hD1
                have hP : va_P D vwCl ([(za, .inr (13, [.int 0, .ref z1, .int (nI z2), .int (nI z3), .int 9, .int (-1), .ref z6, .ref z7, .ref z8, .ref z9, .int (nI z10), .ref z11, .ref z12, .ref z13, .ref z14, .ref z15, .int (nI z16), .ref z17, .int z18, .ref z19]))] ++ va_pl L M) H_128 := hP
                have hD : va_D A ([(za, .inr (13, [.int 0, .ref z1, .int (nI z2), .int (nI z3), .int 9, .int (-1), .ref z6, .ref z7, .ref z8, .ref z9, .int (nI z10), .ref z11, .ref z12, .ref z13, .ref z14, .ref z15, .int (nI z16), .ref z17, .int z18, .ref z19]))] ++ va_pl L M) := hD
                have hq := Eq.symm hp_131
                subst hq
                rw [hQ]
                exact W.iret (v := (-1)) hx hb hr (fun t ht hW9 => ⟨⟨(-1), M, rfl, ⟨hW, hF, trivial⟩, ⟨z3, 9, (-1), (by omega), by rw [ht]; exact hP, hD⟩⟩, hS.F ht⟩) hS.2.2 dX13_partner_89
            · have hz := rfl (a := 0)
              refine lv_aload_n hx hb dX13_partner_60 rfl (lv_at hl 1 rfl) ?_
              refine lv_iload_n hx hb dX13_partner_61 rfl (lv_at hl 3 rfl) ?_
              have hPc : va_P D vwCl ([(za, .inr (13, [.int 0, .ref z1, .int (nI z2), .int (nI z3), .int z4, .int z5, .ref z6, .ref z7, .ref z8, .ref z9, .int (nI z10), .ref z11, .ref z12, .ref z13, .ref z14, .ref z15, .int (nI z16), .ref z17, .int z18, .ref z19]))] ++ va_pl L M) H_1 := hP
              have hDc : va_D A ([(za, .inr (13, [.int 0, .ref z1, .int (nI z2), .int (nI z3), .int z4, .int z5, .ref z6, .ref z7, .ref z8, .ref z9, .int (nI z10), .ref z11, .ref z12, .ref z13, .ref z14, .ref z15, .int (nI z16), .ref z17, .int z18, .ref z19]))] ++ va_pl L M) := hD
              have hFc : ∀ q, va_A ([(za, .inr (13, [.int 0, .ref z1, .int (nI z2), .int (nI z3), .int z4, .int z5, .ref z6, .ref z7, .ref z8, .ref z9, .int (nI z10), .ref z11, .ref z12, .ref z13, .ref z14, .ref z15, .int (nI z16), .ref z17, .int z18, .ref z19]))] ++ va_pl L M) H_1.size q → A q := pg_free hDc hS hA
              refine va_calli (va_runV (As := [.int k2]) (rest := []) ⟨hx, hb, hml, hown, hg⟩ (r_X13_isHouse l D cy K L M H_1.size za 0 z1 z2 z3 z4 z5 z6 z7 z8 z9 z10 z11 z12 z13 z14 z15 z16 z17 z18 z19 k2  hW i1 b2 b3 i6 i7 i8 i9 b10 i11 i12 i13 i14 i15 b16 i17 i19) (cwV 1 hg (gV wd_714 wd_715 wd_716 wd_717 wd_718) rfl rfl rfl (by decide +kernel) ⟨(Nat.le_trans (Nat.le_of_ble_eq_true rfl) hRf), (Nat.le_trans (Nat.le_of_ble_eq_true rfl) hRl)⟩) ⟨PG.blind, va_recv hK hP (ci := 13) (q0 := 0) rfl rfl, fun U hU hW => ⟨rfl, PG.at hPc hK hDc hN hU hW⟩⟩ rfl rfl hl.1 rfl (lv_room (Nat.le_of_ble_eq_true rfl)) dX13_partner_62 ⟨(Nat.le_trans (Nat.le_of_ble_eq_true rfl) hRc), (Nat.le_trans (Nat.le_of_ble_eq_true rfl) hRs)⟩) hS (fun q _ h => hFc q h) hFc (fun r_133 M_134 t H_132 locs ht hvm hw hB hz1 hk1 hS => ?_)
              have hp_135 := hw
              obtain ⟨hP1, hD1⟩ := hB
              rw [ht] at hP1
              have hP : va_P D vwCl ([(za, .inr (13, [.int 0, .ref z1, .int (nI z2), .int (nI z3), .int z4, .int z5, .ref z6, .ref z7, .ref z8, .ref z9, .int (nI z10), .ref z11, .ref z12, .ref z13, .ref z14, .ref z15, .int (nI z16), .ref z17, .int z18, .ref z19]))] ++ va_pl L M) H_132 := hP1
              have hD : va_D A ([(za, .inr (13, [.int 0, .ref z1, .int (nI z2), .int (nI z3), .int z4, .int z5, .ref z6, .ref z7, .ref z8, .ref z9, .int (nI z10), .ref z11, .ref z12, .ref z13, .ref z14, .ref z15, .int (nI z16), .ref z17, .int z18, .ref z19]))] ++ va_pl L M) := hD1.mono hFc
              rcases hp_135 with ⟨rfl, c_136, c_137⟩ | rfl
              · have hz := rfl (a := 0)
                refine lv_if_ne (tgt := 74) hx hb dX13_partner_65 (by decide) (fun _ => ?_) (fun c_138 => absurd c_138 (by decide))
                refine lv_aload_n hx hb dX13_partner_74 rfl (lv_at hl 1 rfl) ?_
                refine va_get (D := D) (ci := 13) (v := .int (nI z3)) (C := RX13) (T := TX13) (N := 20) hx hb hg inG13 hown hK hP 0 rfl rfl 3 (by decide) (hg _ wd_831) (fun _ h9 => h9) rfl dX13_partner_75 ?_
                refine lv_bipush (v := 40) hx hb dX13_partner_78 (by decide) ?_
                refine lv_icmp_ne (tgt := 90) hx hb dX13_partner_80 (by decide) (fun c_139 => ?_) (fun c_139 => ?_)
                · have hz := rfl (a := 0)
                  have n_140 : ¬ (z3 = 40) := fun q => c_139 ((iEQ (a := z3) (b := 40) (by omega) (by omega)).mpr q)
                  refine lv_aload_n hx hb dX13_partner_90 rfl (lv_at hl 1 rfl) ?_
                  refine va_get (D := D) (ci := 13) (v := .ref z6) (C := RX13) (T := TX13) (N := 20) hx hb hg inG13 hown hK hP 0 rfl rfl 6 (by decide) (hg _ wd_719) (fun _ h9 => h9) rfl dX13_partner_91 ?_
                  refine lv_aload_n hx hb dX13_partner_94 rfl (lv_at hl 1 rfl) ?_
                  refine va_get (D := D) (ci := 13) (v := .int (nI z3)) (C := RX13) (T := TX13) (N := 20) hx hb hg inG13 hown hK hP 0 rfl rfl 3 (by decide) (hg _ wd_831) (fun _ h9 => h9) rfl dX13_partner_95 ?_
                  refine lv_iload_n hx hb dX13_partner_98 rfl (lv_at hl 2 rfl) ?_
                  obtain ⟨j_141, hj_142, rfl⟩ := i32nat 6 (by decide) c_91 (leB (b := 6) (c := 5) (by decide) (by decide) (Int32.not_lt.mp c_96))
                  obtain ⟨f143, hM143, hf143⟩ := hW.open_47 i6
                  refine pg_iast hx hb hK hP hD hS i6.1 0 hM143 rfl (inbN z3 40 (by omega) (by omega)) dX13_partner_99 (fun H_144 locs hP hD hS => ?_)
                  obtain ⟨M_145, eM_145⟩ : ∃ M1 : Hp, M1 = va_up M z6 (.inl (cy 14, 40, .inl (upd f143 ((nI z3) : Int32).toNatClampNeg (nI j_141)))) := ⟨_, rfl⟩
                  have hP : va_P D vwCl ([(za, .inr (13, [.int 0, .ref z1, .int (nI z2), .int (nI z3), .int z4, .int z5, .ref z6, .ref z7, .ref z8, .ref z9, .int (nI z10), .ref z11, .ref z12, .ref z13, .ref z14, .ref z15, .int (nI z16), .ref z17, .int z18, .ref z19]))] ++ va_pl L M_145) H_144 := by rw [eM_145]; exact hP
                  have hD : va_D A ([(za, .inr (13, [.int 0, .ref z1, .int (nI z2), .int (nI z3), .int z4, .int z5, .ref z6, .ref z7, .ref z8, .ref z9, .int (nI z10), .ref z11, .ref z12, .ref z13, .ref z14, .ref z15, .int (nI z16), .ref z17, .int z18, .ref z19]))] ++ va_pl L M_145) := by rw [eM_145]; exact hD
                  have hW : WOM cy K L M_145 := by rw [eM_145]; exact hW.up_47 i6 ⟨_, rfl, (updP (P := fun z => ∃ c : Nat, c < 6 ∧ z = nI c) hf143 ⟨j_141, by omega, rfl⟩)⟩
                  have hF : fr K L [47, 48] M M_145 := by rw [eM_145]; exact hF.up i6 (by decide)
                  have hM_146 : M_145 z6 = .inl (cy 14, 40, .inl (upd f143 ((nI z3) : Int32).toNatClampNeg (nI j_141))) := by rw [eM_145]; exact va_up_self _ _ _
                  have hf_148 : ∀ j, j < 40 → ∃ c : Nat, c < 6 ∧ (upd f143 ((nI z3) : Int32).toNatClampNeg (nI j_141)) j = nI c := (updP (P := fun z => ∃ c : Nat, c < 6 ∧ z = nI c) hf143 ⟨j_141, by omega, rfl⟩)
                  obtain ⟨f_147, ef_147⟩ : ∃ f : Nat → Int32, f = upd f143 ((nI z3) : Int32).toNatClampNeg (nI j_141) := ⟨_, rfl⟩
                  rw [← ef_147] at hM_146 hf_148
                  clear ef_147
                  refine lv_aload_n hx hb dX13_partner_100 rfl (lv_at hl 1 rfl) ?_
                  refine va_get (D := D) (ci := 13) (v := .ref z7) (C := RX13) (T := TX13) (N := 20) hx hb hg inG13 hown hK hP 0 rfl rfl 7 (by decide) (hg _ wd_760) (fun _ h9 => h9) rfl dX13_partner_101 ?_
                  refine lv_aload_n hx hb dX13_partner_104 rfl (lv_at hl 1 rfl) ?_
                  refine va_get (D := D) (ci := 13) (v := .int (nI z3)) (C := RX13) (T := TX13) (N := 20) hx hb hg inG13 hown hK hP 0 rfl rfl 3 (by decide) (hg _ wd_831) (fun _ h9 => h9) rfl dX13_partner_105 ?_
                  refine lv_iload_n hx hb dX13_partner_108 rfl (lv_at hl 3 rfl) ?_
                  obtain ⟨f149, hM149⟩ := hW.open_48 i7
                  refine pg_iast hx hb hK hP hD hS i7.1 0 hM149 rfl (inbN z3 40 (by omega) (by omega)) dX13_partner_109 (fun H_150 locs hP hD hS => ?_)
                  obtain ⟨M_151, eM_151⟩ : ∃ M1 : Hp, M1 = va_up M_145 z7 (.inl (cy 14, 40, .inl (upd f149 ((nI z3) : Int32).toNatClampNeg k2))) := ⟨_, rfl⟩
                  have hP : va_P D vwCl ([(za, .inr (13, [.int 0, .ref z1, .int (nI z2), .int (nI z3), .int z4, .int z5, .ref z6, .ref z7, .ref z8, .ref z9, .int (nI z10), .ref z11, .ref z12, .ref z13, .ref z14, .ref z15, .int (nI z16), .ref z17, .int z18, .ref z19]))] ++ va_pl L M_151) H_150 := by rw [eM_151]; exact hP
                  have hD : va_D A ([(za, .inr (13, [.int 0, .ref z1, .int (nI z2), .int (nI z3), .int z4, .int z5, .ref z6, .ref z7, .ref z8, .ref z9, .int (nI z10), .ref z11, .ref z12, .ref z13, .ref z14, .ref z15, .int (nI z16), .ref z17, .int z18, .ref z19]))] ++ va_pl L M_151) := by rw [eM_151]; exact hD
                  have hW : WOM cy K L M_151 := by rw [eM_151]; exact hW.up_48 i7 ⟨_, rfl⟩
                  have hF : fr K L [47, 48] M M_151 := by rw [eM_151]; exact hF.up i7 (by decide)
                  have hM_152 : M_151 z7 = .inl (cy 14, 40, .inl (upd f149 ((nI z3) : Int32).toNatClampNeg k2)) := by rw [eM_151]; exact va_up_self _ _ _
                  have hM_153 : M_151 z6 = .inl (cy 14, 40, .inl (f_147)) := by rw [eM_151, va_up_ne _ _ (i6.neT i7 (by decide))]; exact hM_146
                  obtain ⟨f_154, ef_154⟩ : ∃ f : Nat → Int32, f = upd f149 ((nI z3) : Int32).toNatClampNeg k2 := ⟨_, rfl⟩
                  rw [← ef_154] at hM_152
                  clear ef_154
                  refine lv_aload_n hx hb dX13_partner_110 rfl (lv_at hl 1 rfl) ?_
                  refine lv_dup hx hb dX13_partner_111 rfl ?_
                  refine va_get (D := D) (ci := 13) (v := .int (nI z3)) (C := RX13) (T := TX13) (N := 20) hx hb hg inG13 hown hK hP 0 rfl rfl 3 (by decide) (hg _ wd_831) (fun _ h9 => h9) rfl dX13_partner_112 ?_
                  refine lv_iconst (v := 1) hx hb dX13_partner_115 (by decide) ?_
                  refine lv_iadd hx hb dX13_partner_116 ?_
                  refine lv_topi (fun f_155 ef_155 => ?_)
                  obtain rfl : f_155 = (nI (z3 + 1)) := ef_155.trans (nI_add z3 1)
                  refine va_put (D := D) (ci := 13) (v := .int (nI (z3 + 1))) (ty := .int) (C := RX13) (T := TX13) (N := 20) hx hb hg inG13 tyX13 tyX13_ok nmX13 hown hK hP hD hS 0 rfl rfl 3 (by decide) (hg _ wd_831) (fun _ h9 => h9) rfl (by decide +kernel) rfl rfl (Nat.le_of_ble_eq_true rfl) dX13_partner_117 (fun H_156 locs hP hD hS => ?_)
                  have hP : va_P D vwCl ([(za, .inr (13, [.int 0, .ref z1, .int (nI z2), .int (nI (z3 + 1)), .int z4, .int z5, .ref z6, .ref z7, .ref z8, .ref z9, .int (nI z10), .ref z11, .ref z12, .ref z13, .ref z14, .ref z15, .int (nI z16), .ref z17, .int z18, .ref z19]))] ++ va_pl L M_151) H_156 := hP
                  have hD : va_D A ([(za, .inr (13, [.int 0, .ref z1, .int (nI z2), .int (nI (z3 + 1)), .int z4, .int z5, .ref z6, .ref z7, .ref z8, .ref z9, .int (nI z10), .ref z11, .ref z12, .ref z13, .ref z14, .ref z15, .int (nI z16), .ref z17, .int z18, .ref z19]))] ++ va_pl L M_151) := hD
                  refine lv_aload_n hx hb dX13_partner_120 rfl (lv_at hl 1 rfl) ?_
                  refine lv_aload_n hx hb dX13_partner_121 rfl (lv_at hl 1 rfl) ?_
                  refine va_get (D := D) (ci := 13) (v := .int (nI (z3 + 1))) (C := RX13) (T := TX13) (N := 20) hx hb hg inG13 hown hK hP 0 rfl rfl 3 (by decide) (hg _ wd_831) (fun _ h9 => h9) rfl dX13_partner_122 ?_
                  refine lv_iconst (v := 1) hx hb dX13_partner_125 (by decide) ?_
                  refine lv_isub hx hb dX13_partner_126 ?_
                  refine lv_topi (fun f_157 ef_157 => ?_)
                  obtain rfl : f_157 = (nI ((z3 + 1) - 1)) := ef_157.trans (nI_prd (by omega))
                  have hPc := hP.sub (ws' := [(za, .inr (13, [.int 0, .ref z1, .int (nI z2), .int (nI (z3 + 1)), .int z4, .int z5, .ref z6, .ref z7, .ref z8, .ref z9, .int (nI z10), .ref z11, .ref z12, .ref z13, .ref z14, .ref z15, .int (nI z16), .ref z17, .int z18, .ref z19]))]) [0] rfl
                  have hDc := hD.sub (ws' := [(za, .inr (13, [.int 0, .ref z1, .int (nI z2), .int (nI (z3 + 1)), .int z4, .int z5, .ref z6, .ref z7, .ref z8, .ref z9, .int (nI z10), .ref z11, .ref z12, .ref z13, .ref z14, .ref z15, .int (nI z16), .ref z17, .int z18, .ref z19]))]) [0] (by decide) rfl
                  have hKc := hK.sub (tys' := []) [] rfl
                  have hFc := va_free (wc := [(za, .inr (13, [.int 0, .ref z1, .int (nI z2), .int (nI (z3 + 1)), .int z4, .int z5, .ref z6, .ref z7, .ref z8, .ref z9, .int (nI z10), .ref z11, .ref z12, .ref z13, .ref z14, .ref z15, .int (nI z16), .ref z17, .int z18, .ref z19]))]) hD hS hA [0] rfl
                  refine va_calli (va_runV (As := [.int (nI ((z3 + 1) - 1))]) (rest := []) ⟨hx, hb, hml, hown, hg⟩ (m_done l D H_156.size za 0 z1 (nI z2) (nI (z3 + 1)) z4 z5 z6 z7 z8 z9 (nI z10) z11 z12 z13 z14 z15 (nI z16) z17 z18 z19 (nI ((z3 + 1) - 1))) (cwV 1 hg (gV wd_730 wd_731 wd_732 wd_717 wd_733) rfl rfl rfl (by decide +kernel) ⟨(Nat.le_trans (Nat.le_of_ble_eq_true rfl) hRf), (Nat.le_trans (Nat.le_of_ble_eq_true rfl) hRl)⟩) ⟨Pr.blind, va_recv hK hP (ci := 13) (q0 := 0) rfl rfl, fun U hU hW => ⟨rfl, Pr.at hPc hKc hDc hN hU hW⟩⟩ rfl rfl hl.1 rfl (lv_room (Nat.le_of_ble_eq_true rfl)) dX13_partner_127 ⟨(Nat.le_trans (Nat.le_of_ble_eq_true rfl) hRc), (Nat.le_trans (Nat.le_of_ble_eq_true rfl) hRs)⟩) hS (fun q _ h => hFc q h) hFc (fun r_159 M_160 t H_158 locs ht hvm hw hB hz1 hk1 hS => ?_)
                  have hp_161 := hw
                  obtain ⟨hP1, hK1, hD1⟩ := hB
                  rw [ht] at hP1
                  obtain ⟨hP, hD⟩ := va_joinQ (X := [(za, .inr (13, [.int 0, .ref z1, .int (nI z2), .int (nI (z3 + 1)), .int z4, .int z5, .ref z6, .ref z7, .ref z8, .ref z9, .int (nI z10), .ref z11, .ref z12, .ref z13, .ref z14, .ref z15, .int (nI z16), .ref z17, .int z18, .ref z19]))]) (cx := [(za, .inr (13, [.int 0, .ref z1, .int (nI z2), .int (nI (z3 + 1)), .int z4, .int z5, .ref z6, .ref z7, .ref z8, .ref z9, .int (nI z10), .ref z11, .ref z12, .ref z13, .ref z14, .ref z15, .int (nI z16), .ref z17, .int z18, .ref z19]))]) (wr := []) (w1 := [(za, .inr (13, [.int 0, .ref z1, .int (nI z2), .int (nI (z3 + 1)), .int 0, .int (-1), .ref z6, .ref z7, .ref z8, .ref z9, .int (nI z10), .ref z11, .ref z12, .ref z13, .ref z14, .ref z15, .int (nI z16), .ref z17, .int z18, .ref z19]))]) (pl := va_pl L M_151) hP hD [0] [] rfl rfl (by decide) (by decide) hk1 hFc hP1 hD1
                  have hP : va_P D vwCl ([(za, .inr (13, [.int 0, .ref z1, .int (nI z2), .int (nI (z3 + 1)), .int 0, .int (-1), .ref z6, .ref z7, .ref z8, .ref z9, .int (nI z10), .ref z11, .ref z12, .ref z13, .ref z14, .ref z15, .int (nI z16), .ref z17, .int z18, .ref z19]))] ++ va_pl L M_151) H_158 := hP
                  have hD : va_D A ([(za, .inr (13, [.int 0, .ref z1, .int (nI z2), .int (nI (z3 + 1)), .int 0, .int (-1), .ref z6, .ref z7, .ref z8, .ref z9, .int (nI z10), .ref z11, .ref z12, .ref z13, .ref z14, .ref z15, .int (nI z16), .ref z17, .int z18, .ref z19]))] ++ va_pl L M_151) := hD
                  have hq := Eq.symm hp_161
                  subst hq
                  rw [hQ]
                  exact W.iret (v := (nI ((z3 + 1) - 1))) hx hb hr (fun t ht hW9 => ⟨⟨(nI ((z3 + 1) - 1)), M_151, rfl, ⟨hW, hF, trivial⟩, ⟨(z3 + 1), 0, (-1), (by omega), by rw [ht]; exact hP, hD⟩⟩, hS.F ht⟩) hS.2.2 dX13_partner_130
                · have hz := rfl (a := 0)
                  have n_162 : z3 = 40 := (iEQ (a := z3) (b := 40) (by omega) (by omega)).mp c_139
                  refine lv_aload_n hx hb dX13_partner_83 rfl (lv_at hl 1 rfl) ?_
                  refine lv_bipush (v := 9) hx hb dX13_partner_84 (by decide) ?_
                  have hPc := hP.sub (ws' := [(za, .inr (13, [.int 0, .ref z1, .int (nI z2), .int (nI z3), .int z4, .int z5, .ref z6, .ref z7, .ref z8, .ref z9, .int (nI z10), .ref z11, .ref z12, .ref z13, .ref z14, .ref z15, .int (nI z16), .ref z17, .int z18, .ref z19]))]) [0] rfl
                  have hDc := hD.sub (ws' := [(za, .inr (13, [.int 0, .ref z1, .int (nI z2), .int (nI z3), .int z4, .int z5, .ref z6, .ref z7, .ref z8, .ref z9, .int (nI z10), .ref z11, .ref z12, .ref z13, .ref z14, .ref z15, .int (nI z16), .ref z17, .int z18, .ref z19]))]) [0] (by decide) rfl
                  have hKc := hK.sub (tys' := []) [] rfl
                  have hFc := va_free (wc := [(za, .inr (13, [.int 0, .ref z1, .int (nI z2), .int (nI z3), .int z4, .int z5, .ref z6, .ref z7, .ref z8, .ref z9, .int (nI z10), .ref z11, .ref z12, .ref z13, .ref z14, .ref z15, .int (nI z16), .ref z17, .int z18, .ref z19]))]) hD hS hA [0] rfl
                  refine va_calli (va_runV (As := [.int 9]) (rest := []) ⟨hx, hb, hml, hown, hg⟩ (m_refused l D H_132.size za 0 z1 (nI z2) (nI z3) z4 z5 z6 z7 z8 z9 (nI z10) z11 z12 z13 z14 z15 (nI z16) z17 z18 z19 9) (cwV 1 hg (gV wd_725 wd_726 wd_727 wd_717 wd_728) rfl rfl rfl (by decide +kernel) ⟨(Nat.le_trans (Nat.le_of_ble_eq_true rfl) hRf), (Nat.le_trans (Nat.le_of_ble_eq_true rfl) hRl)⟩) ⟨Pr.blind, va_recv hK hP (ci := 13) (q0 := 0) rfl rfl, fun U hU hW => ⟨rfl, Pr.at hPc hKc hDc hN hU hW⟩⟩ rfl rfl hl.1 rfl (lv_room (Nat.le_of_ble_eq_true rfl)) dX13_partner_86 ⟨(Nat.le_trans (Nat.le_of_ble_eq_true rfl) hRc), (Nat.le_trans (Nat.le_of_ble_eq_true rfl) hRs)⟩) hS (fun q _ h => hFc q h) hFc (fun r_164 M_165 t H_163 locs ht hvm hw hB hz1 hk1 hS => ?_)
                  have hp_166 := hw
                  obtain ⟨hP1, hK1, hD1⟩ := hB
                  rw [ht] at hP1
                  obtain ⟨hP, hD⟩ := va_joinQ (X := [(za, .inr (13, [.int 0, .ref z1, .int (nI z2), .int (nI z3), .int z4, .int z5, .ref z6, .ref z7, .ref z8, .ref z9, .int (nI z10), .ref z11, .ref z12, .ref z13, .ref z14, .ref z15, .int (nI z16), .ref z17, .int z18, .ref z19]))]) (cx := [(za, .inr (13, [.int 0, .ref z1, .int (nI z2), .int (nI z3), .int z4, .int z5, .ref z6, .ref z7, .ref z8, .ref z9, .int (nI z10), .ref z11, .ref z12, .ref z13, .ref z14, .ref z15, .int (nI z16), .ref z17, .int z18, .ref z19]))]) (wr := []) (w1 := [(za, .inr (13, [.int 0, .ref z1, .int (nI z2), .int (nI z3), .int 9, .int (-1), .ref z6, .ref z7, .ref z8, .ref z9, .int (nI z10), .ref z11, .ref z12, .ref z13, .ref z14, .ref z15, .int (nI z16), .ref z17, .int z18, .ref z19]))]) (pl := va_pl L M) hP hD [0] [] rfl rfl (by decide) (by decide) hk1 hFc hP1 hD1
                  have hP : va_P D vwCl ([(za, .inr (13, [.int 0, .ref z1, .int (nI z2), .int (nI z3), .int 9, .int (-1), .ref z6, .ref z7, .ref z8, .ref z9, .int (nI z10), .ref z11, .ref z12, .ref z13, .ref z14, .ref z15, .int (nI z16), .ref z17, .int z18, .ref z19]))] ++ va_pl L M) H_163 := hP
                  have hD : va_D A ([(za, .inr (13, [.int 0, .ref z1, .int (nI z2), .int (nI z3), .int 9, .int (-1), .ref z6, .ref z7, .ref z8, .ref z9, .int (nI z10), .ref z11, .ref z12, .ref z13, .ref z14, .ref z15, .int (nI z16), .ref z17, .int z18, .ref z19]))] ++ va_pl L M) := hD
                  have hq := Eq.symm hp_166
                  subst hq
                  rw [hQ]
                  exact W.iret (v := (-1)) hx hb hr (fun t ht hW9 => ⟨⟨(-1), M, rfl, ⟨hW, hF, trivial⟩, ⟨z3, 9, (-1), (by omega), by rw [ht]; exact hP, hD⟩⟩, hS.F ht⟩) hS.2.2 dX13_partner_89
              · have hz := rfl (a := 0)
                refine lv_if_ne (tgt := 74) hx hb dX13_partner_65 (by decide) (fun c_167 => absurd c_167 (by decide)) (fun _ => ?_)
                refine lv_aload_n hx hb dX13_partner_68 rfl (lv_at hl 1 rfl) ?_
                refine lv_iconst (v := 1) hx hb dX13_partner_69 (by decide) ?_
                have hPc := hP.sub (ws' := [(za, .inr (13, [.int 0, .ref z1, .int (nI z2), .int (nI z3), .int z4, .int z5, .ref z6, .ref z7, .ref z8, .ref z9, .int (nI z10), .ref z11, .ref z12, .ref z13, .ref z14, .ref z15, .int (nI z16), .ref z17, .int z18, .ref z19]))]) [0] rfl
                have hDc := hD.sub (ws' := [(za, .inr (13, [.int 0, .ref z1, .int (nI z2), .int (nI z3), .int z4, .int z5, .ref z6, .ref z7, .ref z8, .ref z9, .int (nI z10), .ref z11, .ref z12, .ref z13, .ref z14, .ref z15, .int (nI z16), .ref z17, .int z18, .ref z19]))]) [0] (by decide) rfl
                have hKc := hK.sub (tys' := []) [] rfl
                have hFc := va_free (wc := [(za, .inr (13, [.int 0, .ref z1, .int (nI z2), .int (nI z3), .int z4, .int z5, .ref z6, .ref z7, .ref z8, .ref z9, .int (nI z10), .ref z11, .ref z12, .ref z13, .ref z14, .ref z15, .int (nI z16), .ref z17, .int z18, .ref z19]))]) hD hS hA [0] rfl
                refine va_calli (va_runV (As := [.int 1]) (rest := []) ⟨hx, hb, hml, hown, hg⟩ (m_refused l D H_132.size za 0 z1 (nI z2) (nI z3) z4 z5 z6 z7 z8 z9 (nI z10) z11 z12 z13 z14 z15 (nI z16) z17 z18 z19 1) (cwV 1 hg (gV wd_725 wd_726 wd_727 wd_717 wd_728) rfl rfl rfl (by decide +kernel) ⟨(Nat.le_trans (Nat.le_of_ble_eq_true rfl) hRf), (Nat.le_trans (Nat.le_of_ble_eq_true rfl) hRl)⟩) ⟨Pr.blind, va_recv hK hP (ci := 13) (q0 := 0) rfl rfl, fun U hU hW => ⟨rfl, Pr.at hPc hKc hDc hN hU hW⟩⟩ rfl rfl hl.1 rfl (lv_room (Nat.le_of_ble_eq_true rfl)) dX13_partner_70 ⟨(Nat.le_trans (Nat.le_of_ble_eq_true rfl) hRc), (Nat.le_trans (Nat.le_of_ble_eq_true rfl) hRs)⟩) hS (fun q _ h => hFc q h) hFc (fun r_169 M_170 t H_168 locs ht hvm hw hB hz1 hk1 hS => ?_)
                have hp_171 := hw
                obtain ⟨hP1, hK1, hD1⟩ := hB
                rw [ht] at hP1
                obtain ⟨hP, hD⟩ := va_joinQ (X := [(za, .inr (13, [.int 0, .ref z1, .int (nI z2), .int (nI z3), .int z4, .int z5, .ref z6, .ref z7, .ref z8, .ref z9, .int (nI z10), .ref z11, .ref z12, .ref z13, .ref z14, .ref z15, .int (nI z16), .ref z17, .int z18, .ref z19]))]) (cx := [(za, .inr (13, [.int 0, .ref z1, .int (nI z2), .int (nI z3), .int z4, .int z5, .ref z6, .ref z7, .ref z8, .ref z9, .int (nI z10), .ref z11, .ref z12, .ref z13, .ref z14, .ref z15, .int (nI z16), .ref z17, .int z18, .ref z19]))]) (wr := []) (w1 := [(za, .inr (13, [.int 0, .ref z1, .int (nI z2), .int (nI z3), .int 1, .int (-1), .ref z6, .ref z7, .ref z8, .ref z9, .int (nI z10), .ref z11, .ref z12, .ref z13, .ref z14, .ref z15, .int (nI z16), .ref z17, .int z18, .ref z19]))]) (pl := va_pl L M) hP hD [0] [] rfl rfl (by decide) (by decide) hk1 hFc hP1 hD1
                have hP : va_P D vwCl ([(za, .inr (13, [.int 0, .ref z1, .int (nI z2), .int (nI z3), .int 1, .int (-1), .ref z6, .ref z7, .ref z8, .ref z9, .int (nI z10), .ref z11, .ref z12, .ref z13, .ref z14, .ref z15, .int (nI z16), .ref z17, .int z18, .ref z19]))] ++ va_pl L M) H_168 := hP
                have hD : va_D A ([(za, .inr (13, [.int 0, .ref z1, .int (nI z2), .int (nI z3), .int 1, .int (-1), .ref z6, .ref z7, .ref z8, .ref z9, .int (nI z10), .ref z11, .ref z12, .ref z13, .ref z14, .ref z15, .int (nI z16), .ref z17, .int z18, .ref z19]))] ++ va_pl L M) := hD
                have hq := Eq.symm hp_171
                subst hq
                rw [hQ]
                exact W.iret (v := (-1)) hx hb hr (fun t ht hW9 => ⟨⟨(-1), M, rfl, ⟨hW, hF, trivial⟩, ⟨z3, 1, (-1), (by omega), by rw [ht]; exact hP, hD⟩⟩, hS.F ht⟩) hS.2.2 dX13_partner_73
      · have hz := rfl (a := 0)
        refine lv_iconst (v := 1) hx hb dX13_partner_20 (by decide) ?_
        refine lv_goto (tgt := 25) hx hb dX13_partner_21 (by decide) ?_
        refine lv_istore_n (lv' := [(3, .int 1), (0, .ref za), (1, .int k1), (2, .int k2)]) hx hb dX13_partner_25 rfl hl (by decide) rfl (fun ls hl => ?_)
        refine lv_iload_n hx hb dX13_partner_26 rfl (lv_at hl 2 rfl) ?_
        refine lv_if_lt (tgt := 49) hx hb dX13_partner_27 (by decide) (fun c_172 => absurd c_172 (by rw [c_90]; decide)) (fun c_172 => ?_)
        refine lv_iload_n hx hb dX13_partner_30 rfl (lv_at hl 2 rfl) ?_
        refine lv_iconst (v := 5) hx hb dX13_partner_31 (by decide) ?_
        refine lv_icmp_gt (tgt := 49) hx hb dX13_partner_32 (by decide) (fun c_173 => absurd c_173 (by rw [c_90]; decide)) (fun c_173 => ?_)
        refine lv_iload_n hx hb dX13_partner_35 rfl (lv_at hl 0 rfl) ?_
        refine lv_if_eq (tgt := 55) hx hb dX13_partner_36 (by decide) (fun c_174 => absurd c_174 (by decide)) (fun _ => ?_)
        refine lv_iload_n hx hb dX13_partner_39 rfl (lv_at hl 3 rfl) ?_
        refine lv_if_lt (tgt := 49) hx hb dX13_partner_40 (by decide) (fun c_175 => ?_) (fun c_175 => ?_)
        · have hz := rfl (a := 0)
          refine lv_aload_n hx hb dX13_partner_49 rfl (lv_at hl 1 rfl) ?_
          refine lv_iconst (v := 2) hx hb dX13_partner_50 (by decide) ?_
          have hPc := hP.sub (ws' := [(za, .inr (13, [.int 0, .ref z1, .int (nI z2), .int (nI z3), .int z4, .int z5, .ref z6, .ref z7, .ref z8, .ref z9, .int (nI z10), .ref z11, .ref z12, .ref z13, .ref z14, .ref z15, .int (nI z16), .ref z17, .int z18, .ref z19]))]) [0] rfl
          have hDc := hD.sub (ws' := [(za, .inr (13, [.int 0, .ref z1, .int (nI z2), .int (nI z3), .int z4, .int z5, .ref z6, .ref z7, .ref z8, .ref z9, .int (nI z10), .ref z11, .ref z12, .ref z13, .ref z14, .ref z15, .int (nI z16), .ref z17, .int z18, .ref z19]))]) [0] (by decide) rfl
          have hKc := hK.sub (tys' := []) [] rfl
          have hFc := va_free (wc := [(za, .inr (13, [.int 0, .ref z1, .int (nI z2), .int (nI z3), .int z4, .int z5, .ref z6, .ref z7, .ref z8, .ref z9, .int (nI z10), .ref z11, .ref z12, .ref z13, .ref z14, .ref z15, .int (nI z16), .ref z17, .int z18, .ref z19]))]) hD hS hA [0] rfl
          refine va_calli (va_runV (As := [.int 2]) (rest := []) ⟨hx, hb, hml, hown, hg⟩ (m_refused l D H_1.size za 0 z1 (nI z2) (nI z3) z4 z5 z6 z7 z8 z9 (nI z10) z11 z12 z13 z14 z15 (nI z16) z17 z18 z19 2) (cwV 1 hg (gV wd_725 wd_726 wd_727 wd_717 wd_728) rfl rfl rfl (by decide +kernel) ⟨(Nat.le_trans (Nat.le_of_ble_eq_true rfl) hRf), (Nat.le_trans (Nat.le_of_ble_eq_true rfl) hRl)⟩) ⟨Pr.blind, va_recv hK hP (ci := 13) (q0 := 0) rfl rfl, fun U hU hW => ⟨rfl, Pr.at hPc hKc hDc hN hU hW⟩⟩ rfl rfl hl.1 rfl (lv_room (Nat.le_of_ble_eq_true rfl)) dX13_partner_51 ⟨(Nat.le_trans (Nat.le_of_ble_eq_true rfl) hRc), (Nat.le_trans (Nat.le_of_ble_eq_true rfl) hRs)⟩) hS (fun q _ h => hFc q h) hFc (fun r_177 M_178 t H_176 locs ht hvm hw hB hz1 hk1 hS => ?_)
          have hp_179 := hw
          obtain ⟨hP1, hK1, hD1⟩ := hB
          rw [ht] at hP1
          obtain ⟨hP, hD⟩ := va_joinQ (X := [(za, .inr (13, [.int 0, .ref z1, .int (nI z2), .int (nI z3), .int z4, .int z5, .ref z6, .ref z7, .ref z8, .ref z9, .int (nI z10), .ref z11, .ref z12, .ref z13, .ref z14, .ref z15, .int (nI z16), .ref z17, .int z18, .ref z19]))]) (cx := [(za, .inr (13, [.int 0, .ref z1, .int (nI z2), .int (nI z3), .int z4, .int z5, .ref z6, .ref z7, .ref z8, .ref z9, .int (nI z10), .ref z11, .ref z12, .ref z13, .ref z14, .ref z15, .int (nI z16), .ref z17, .int z18, .ref z19]))]) (wr := []) (w1 := [(za, .inr (13, [.int 0, .ref z1, .int (nI z2), .int (nI z3), .int 2, .int (-1), .ref z6, .ref z7, .ref z8, .ref z9, .int (nI z10), .ref z11, .ref z12, .ref z13, .ref z14, .ref z15, .int (nI z16), .ref z17, .int z18, .ref z19]))]) (pl := va_pl L M) hP hD [0] [] rfl rfl (by decide) (by decide) hk1 hFc hP1 hD1
          have hP : va_P D vwCl ([(za, .inr (13, [.int 0, .ref z1, .int (nI z2), .int (nI z3), .int 2, .int (-1), .ref z6, .ref z7, .ref z8, .ref z9, .int (nI z10), .ref z11, .ref z12, .ref z13, .ref z14, .ref z15, .int (nI z16), .ref z17, .int z18, .ref z19]))] ++ va_pl L M) H_176 := hP
          have hD : va_D A ([(za, .inr (13, [.int 0, .ref z1, .int (nI z2), .int (nI z3), .int 2, .int (-1), .ref z6, .ref z7, .ref z8, .ref z9, .int (nI z10), .ref z11, .ref z12, .ref z13, .ref z14, .ref z15, .int (nI z16), .ref z17, .int z18, .ref z19]))] ++ va_pl L M) := hD
          have hq := Eq.symm hp_179
          subst hq
          rw [hQ]
          exact W.iret (v := (-1)) hx hb hr (fun t ht hW9 => ⟨⟨(-1), M, rfl, ⟨hW, hF, trivial⟩, ⟨z3, 2, (-1), (by omega), by rw [ht]; exact hP, hD⟩⟩, hS.F ht⟩) hS.2.2 dX13_partner_54
        · have hz := rfl (a := 0)
          refine lv_iload_n hx hb dX13_partner_43 rfl (lv_at hl 3 rfl) ?_
          refine lv_ldc (v := 1000000000) hx hb hown (hg _ wd_712) dX13_partner_44 ?_
          refine lv_icmp_le (tgt := 55) hx hb dX13_partner_46 (by decide) (fun c_180 => ?_) (fun c_180 => ?_)
          · have hz := rfl (a := 0)
            refine lv_iload_n hx hb dX13_partner_55 rfl (lv_at hl 2 rfl) ?_
            refine lv_iconst (v := 5) hx hb dX13_partner_56 (by decide) ?_
            refine lv_icmp_ne (tgt := 74) hx hb dX13_partner_57 (by decide) (fun c_181 => ?_) (fun c_181 => absurd c_181 (by rw [c_90]; decide))
            refine lv_aload_n hx hb dX13_partner_74 rfl (lv_at hl 1 rfl) ?_
            refine va_get (D := D) (ci := 13) (v := .int (nI z3)) (C := RX13) (T := TX13) (N := 20) hx hb hg inG13 hown hK hP 0 rfl rfl 3 (by decide) (hg _ wd_831) (fun _ h9 => h9) rfl dX13_partner_75 ?_
            refine lv_bipush (v := 40) hx hb dX13_partner_78 (by decide) ?_
            refine lv_icmp_ne (tgt := 90) hx hb dX13_partner_80 (by decide) (fun c_182 => ?_) (fun c_182 => ?_)
            · have hz := rfl (a := 0)
              have n_183 : ¬ (z3 = 40) := fun q => c_182 ((iEQ (a := z3) (b := 40) (by omega) (by omega)).mpr q)
              refine lv_aload_n hx hb dX13_partner_90 rfl (lv_at hl 1 rfl) ?_
              refine va_get (D := D) (ci := 13) (v := .ref z6) (C := RX13) (T := TX13) (N := 20) hx hb hg inG13 hown hK hP 0 rfl rfl 6 (by decide) (hg _ wd_719) (fun _ h9 => h9) rfl dX13_partner_91 ?_
              refine lv_aload_n hx hb dX13_partner_94 rfl (lv_at hl 1 rfl) ?_
              refine va_get (D := D) (ci := 13) (v := .int (nI z3)) (C := RX13) (T := TX13) (N := 20) hx hb hg inG13 hown hK hP 0 rfl rfl 3 (by decide) (hg _ wd_831) (fun _ h9 => h9) rfl dX13_partner_95 ?_
              refine lv_iload_n hx hb dX13_partner_98 rfl (lv_at hl 2 rfl) ?_
              obtain ⟨j_184, hj_185, rfl⟩ := i32nat 6 (by decide) c_172 (leB (b := 6) (c := 5) (by decide) (by decide) (Int32.not_lt.mp c_173))
              obtain ⟨f186, hM186, hf186⟩ := hW.open_47 i6
              refine pg_iast hx hb hK hP hD hS i6.1 0 hM186 rfl (inbN z3 40 (by omega) (by omega)) dX13_partner_99 (fun H_187 locs hP hD hS => ?_)
              obtain ⟨M_188, eM_188⟩ : ∃ M1 : Hp, M1 = va_up M z6 (.inl (cy 14, 40, .inl (upd f186 ((nI z3) : Int32).toNatClampNeg (nI j_184)))) := ⟨_, rfl⟩
              have hP : va_P D vwCl ([(za, .inr (13, [.int 0, .ref z1, .int (nI z2), .int (nI z3), .int z4, .int z5, .ref z6, .ref z7, .ref z8, .ref z9, .int (nI z10), .ref z11, .ref z12, .ref z13, .ref z14, .ref z15, .int (nI z16), .ref z17, .int z18, .ref z19]))] ++ va_pl L M_188) H_187 := by rw [eM_188]; exact hP
              have hD : va_D A ([(za, .inr (13, [.int 0, .ref z1, .int (nI z2), .int (nI z3), .int z4, .int z5, .ref z6, .ref z7, .ref z8, .ref z9, .int (nI z10), .ref z11, .ref z12, .ref z13, .ref z14, .ref z15, .int (nI z16), .ref z17, .int z18, .ref z19]))] ++ va_pl L M_188) := by rw [eM_188]; exact hD
              have hW : WOM cy K L M_188 := by rw [eM_188]; exact hW.up_47 i6 ⟨_, rfl, (updP (P := fun z => ∃ c : Nat, c < 6 ∧ z = nI c) hf186 ⟨j_184, by omega, rfl⟩)⟩
              have hF : fr K L [47, 48] M M_188 := by rw [eM_188]; exact hF.up i6 (by decide)
              have hM_189 : M_188 z6 = .inl (cy 14, 40, .inl (upd f186 ((nI z3) : Int32).toNatClampNeg (nI j_184))) := by rw [eM_188]; exact va_up_self _ _ _
              have hf_191 : ∀ j, j < 40 → ∃ c : Nat, c < 6 ∧ (upd f186 ((nI z3) : Int32).toNatClampNeg (nI j_184)) j = nI c := (updP (P := fun z => ∃ c : Nat, c < 6 ∧ z = nI c) hf186 ⟨j_184, by omega, rfl⟩)
              obtain ⟨f_190, ef_190⟩ : ∃ f : Nat → Int32, f = upd f186 ((nI z3) : Int32).toNatClampNeg (nI j_184) := ⟨_, rfl⟩
              rw [← ef_190] at hM_189 hf_191
              clear ef_190
              refine lv_aload_n hx hb dX13_partner_100 rfl (lv_at hl 1 rfl) ?_
              refine va_get (D := D) (ci := 13) (v := .ref z7) (C := RX13) (T := TX13) (N := 20) hx hb hg inG13 hown hK hP 0 rfl rfl 7 (by decide) (hg _ wd_760) (fun _ h9 => h9) rfl dX13_partner_101 ?_
              refine lv_aload_n hx hb dX13_partner_104 rfl (lv_at hl 1 rfl) ?_
              refine va_get (D := D) (ci := 13) (v := .int (nI z3)) (C := RX13) (T := TX13) (N := 20) hx hb hg inG13 hown hK hP 0 rfl rfl 3 (by decide) (hg _ wd_831) (fun _ h9 => h9) rfl dX13_partner_105 ?_
              refine lv_iload_n hx hb dX13_partner_108 rfl (lv_at hl 3 rfl) ?_
              obtain ⟨f192, hM192⟩ := hW.open_48 i7
              refine pg_iast hx hb hK hP hD hS i7.1 0 hM192 rfl (inbN z3 40 (by omega) (by omega)) dX13_partner_109 (fun H_193 locs hP hD hS => ?_)
              obtain ⟨M_194, eM_194⟩ : ∃ M1 : Hp, M1 = va_up M_188 z7 (.inl (cy 14, 40, .inl (upd f192 ((nI z3) : Int32).toNatClampNeg k2))) := ⟨_, rfl⟩
              have hP : va_P D vwCl ([(za, .inr (13, [.int 0, .ref z1, .int (nI z2), .int (nI z3), .int z4, .int z5, .ref z6, .ref z7, .ref z8, .ref z9, .int (nI z10), .ref z11, .ref z12, .ref z13, .ref z14, .ref z15, .int (nI z16), .ref z17, .int z18, .ref z19]))] ++ va_pl L M_194) H_193 := by rw [eM_194]; exact hP
              have hD : va_D A ([(za, .inr (13, [.int 0, .ref z1, .int (nI z2), .int (nI z3), .int z4, .int z5, .ref z6, .ref z7, .ref z8, .ref z9, .int (nI z10), .ref z11, .ref z12, .ref z13, .ref z14, .ref z15, .int (nI z16), .ref z17, .int z18, .ref z19]))] ++ va_pl L M_194) := by rw [eM_194]; exact hD
              have hW : WOM cy K L M_194 := by rw [eM_194]; exact hW.up_48 i7 ⟨_, rfl⟩
              have hF : fr K L [47, 48] M M_194 := by rw [eM_194]; exact hF.up i7 (by decide)
              have hM_195 : M_194 z7 = .inl (cy 14, 40, .inl (upd f192 ((nI z3) : Int32).toNatClampNeg k2)) := by rw [eM_194]; exact va_up_self _ _ _
              have hM_196 : M_194 z6 = .inl (cy 14, 40, .inl (f_190)) := by rw [eM_194, va_up_ne _ _ (i6.neT i7 (by decide))]; exact hM_189
              obtain ⟨f_197, ef_197⟩ : ∃ f : Nat → Int32, f = upd f192 ((nI z3) : Int32).toNatClampNeg k2 := ⟨_, rfl⟩
              rw [← ef_197] at hM_195
              clear ef_197
              refine lv_aload_n hx hb dX13_partner_110 rfl (lv_at hl 1 rfl) ?_
              refine lv_dup hx hb dX13_partner_111 rfl ?_
              refine va_get (D := D) (ci := 13) (v := .int (nI z3)) (C := RX13) (T := TX13) (N := 20) hx hb hg inG13 hown hK hP 0 rfl rfl 3 (by decide) (hg _ wd_831) (fun _ h9 => h9) rfl dX13_partner_112 ?_
              refine lv_iconst (v := 1) hx hb dX13_partner_115 (by decide) ?_
              refine lv_iadd hx hb dX13_partner_116 ?_
              refine lv_topi (fun f_198 ef_198 => ?_)
              obtain rfl : f_198 = (nI (z3 + 1)) := ef_198.trans (nI_add z3 1)
              refine va_put (D := D) (ci := 13) (v := .int (nI (z3 + 1))) (ty := .int) (C := RX13) (T := TX13) (N := 20) hx hb hg inG13 tyX13 tyX13_ok nmX13 hown hK hP hD hS 0 rfl rfl 3 (by decide) (hg _ wd_831) (fun _ h9 => h9) rfl (by decide +kernel) rfl rfl (Nat.le_of_ble_eq_true rfl) dX13_partner_117 (fun H_199 locs hP hD hS => ?_)
              have hP : va_P D vwCl ([(za, .inr (13, [.int 0, .ref z1, .int (nI z2), .int (nI (z3 + 1)), .int z4, .int z5, .ref z6, .ref z7, .ref z8, .ref z9, .int (nI z10), .ref z11, .ref z12, .ref z13, .ref z14, .ref z15, .int (nI z16), .ref z17, .int z18, .ref z19]))] ++ va_pl L M_194) H_199 := hP
              have hD : va_D A ([(za, .inr (13, [.int 0, .ref z1, .int (nI z2), .int (nI (z3 + 1)), .int z4, .int z5, .ref z6, .ref z7, .ref z8, .ref z9, .int (nI z10), .ref z11, .ref z12, .ref z13, .ref z14, .ref z15, .int (nI z16), .ref z17, .int z18, .ref z19]))] ++ va_pl L M_194) := hD
              refine lv_aload_n hx hb dX13_partner_120 rfl (lv_at hl 1 rfl) ?_
              refine lv_aload_n hx hb dX13_partner_121 rfl (lv_at hl 1 rfl) ?_
              refine va_get (D := D) (ci := 13) (v := .int (nI (z3 + 1))) (C := RX13) (T := TX13) (N := 20) hx hb hg inG13 hown hK hP 0 rfl rfl 3 (by decide) (hg _ wd_831) (fun _ h9 => h9) rfl dX13_partner_122 ?_
              refine lv_iconst (v := 1) hx hb dX13_partner_125 (by decide) ?_
              refine lv_isub hx hb dX13_partner_126 ?_
              refine lv_topi (fun f_200 ef_200 => ?_)
              obtain rfl : f_200 = (nI ((z3 + 1) - 1)) := ef_200.trans (nI_prd (by omega))
              have hPc := hP.sub (ws' := [(za, .inr (13, [.int 0, .ref z1, .int (nI z2), .int (nI (z3 + 1)), .int z4, .int z5, .ref z6, .ref z7, .ref z8, .ref z9, .int (nI z10), .ref z11, .ref z12, .ref z13, .ref z14, .ref z15, .int (nI z16), .ref z17, .int z18, .ref z19]))]) [0] rfl
              have hDc := hD.sub (ws' := [(za, .inr (13, [.int 0, .ref z1, .int (nI z2), .int (nI (z3 + 1)), .int z4, .int z5, .ref z6, .ref z7, .ref z8, .ref z9, .int (nI z10), .ref z11, .ref z12, .ref z13, .ref z14, .ref z15, .int (nI z16), .ref z17, .int z18, .ref z19]))]) [0] (by decide) rfl
              have hKc := hK.sub (tys' := []) [] rfl
              have hFc := va_free (wc := [(za, .inr (13, [.int 0, .ref z1, .int (nI z2), .int (nI (z3 + 1)), .int z4, .int z5, .ref z6, .ref z7, .ref z8, .ref z9, .int (nI z10), .ref z11, .ref z12, .ref z13, .ref z14, .ref z15, .int (nI z16), .ref z17, .int z18, .ref z19]))]) hD hS hA [0] rfl
              refine va_calli (va_runV (As := [.int (nI ((z3 + 1) - 1))]) (rest := []) ⟨hx, hb, hml, hown, hg⟩ (m_done l D H_199.size za 0 z1 (nI z2) (nI (z3 + 1)) z4 z5 z6 z7 z8 z9 (nI z10) z11 z12 z13 z14 z15 (nI z16) z17 z18 z19 (nI ((z3 + 1) - 1))) (cwV 1 hg (gV wd_730 wd_731 wd_732 wd_717 wd_733) rfl rfl rfl (by decide +kernel) ⟨(Nat.le_trans (Nat.le_of_ble_eq_true rfl) hRf), (Nat.le_trans (Nat.le_of_ble_eq_true rfl) hRl)⟩) ⟨Pr.blind, va_recv hK hP (ci := 13) (q0 := 0) rfl rfl, fun U hU hW => ⟨rfl, Pr.at hPc hKc hDc hN hU hW⟩⟩ rfl rfl hl.1 rfl (lv_room (Nat.le_of_ble_eq_true rfl)) dX13_partner_127 ⟨(Nat.le_trans (Nat.le_of_ble_eq_true rfl) hRc), (Nat.le_trans (Nat.le_of_ble_eq_true rfl) hRs)⟩) hS (fun q _ h => hFc q h) hFc (fun r_202 M_203 t H_201 locs ht hvm hw hB hz1 hk1 hS => ?_)
              have hp_204 := hw
              obtain ⟨hP1, hK1, hD1⟩ := hB
              rw [ht] at hP1
              obtain ⟨hP, hD⟩ := va_joinQ (X := [(za, .inr (13, [.int 0, .ref z1, .int (nI z2), .int (nI (z3 + 1)), .int z4, .int z5, .ref z6, .ref z7, .ref z8, .ref z9, .int (nI z10), .ref z11, .ref z12, .ref z13, .ref z14, .ref z15, .int (nI z16), .ref z17, .int z18, .ref z19]))]) (cx := [(za, .inr (13, [.int 0, .ref z1, .int (nI z2), .int (nI (z3 + 1)), .int z4, .int z5, .ref z6, .ref z7, .ref z8, .ref z9, .int (nI z10), .ref z11, .ref z12, .ref z13, .ref z14, .ref z15, .int (nI z16), .ref z17, .int z18, .ref z19]))]) (wr := []) (w1 := [(za, .inr (13, [.int 0, .ref z1, .int (nI z2), .int (nI (z3 + 1)), .int 0, .int (-1), .ref z6, .ref z7, .ref z8, .ref z9, .int (nI z10), .ref z11, .ref z12, .ref z13, .ref z14, .ref z15, .int (nI z16), .ref z17, .int z18, .ref z19]))]) (pl := va_pl L M_194) hP hD [0] [] rfl rfl (by decide) (by decide) hk1 hFc hP1 hD1
              have hP : va_P D vwCl ([(za, .inr (13, [.int 0, .ref z1, .int (nI z2), .int (nI (z3 + 1)), .int 0, .int (-1), .ref z6, .ref z7, .ref z8, .ref z9, .int (nI z10), .ref z11, .ref z12, .ref z13, .ref z14, .ref z15, .int (nI z16), .ref z17, .int z18, .ref z19]))] ++ va_pl L M_194) H_201 := hP
              have hD : va_D A ([(za, .inr (13, [.int 0, .ref z1, .int (nI z2), .int (nI (z3 + 1)), .int 0, .int (-1), .ref z6, .ref z7, .ref z8, .ref z9, .int (nI z10), .ref z11, .ref z12, .ref z13, .ref z14, .ref z15, .int (nI z16), .ref z17, .int z18, .ref z19]))] ++ va_pl L M_194) := hD
              have hq := Eq.symm hp_204
              subst hq
              rw [hQ]
              exact W.iret (v := (nI ((z3 + 1) - 1))) hx hb hr (fun t ht hW9 => ⟨⟨(nI ((z3 + 1) - 1)), M_194, rfl, ⟨hW, hF, trivial⟩, ⟨(z3 + 1), 0, (-1), (by omega), by rw [ht]; exact hP, hD⟩⟩, hS.F ht⟩) hS.2.2 dX13_partner_130
            · have hz := rfl (a := 0)
              have n_205 : z3 = 40 := (iEQ (a := z3) (b := 40) (by omega) (by omega)).mp c_182
              refine lv_aload_n hx hb dX13_partner_83 rfl (lv_at hl 1 rfl) ?_
              refine lv_bipush (v := 9) hx hb dX13_partner_84 (by decide) ?_
              have hPc := hP.sub (ws' := [(za, .inr (13, [.int 0, .ref z1, .int (nI z2), .int (nI z3), .int z4, .int z5, .ref z6, .ref z7, .ref z8, .ref z9, .int (nI z10), .ref z11, .ref z12, .ref z13, .ref z14, .ref z15, .int (nI z16), .ref z17, .int z18, .ref z19]))]) [0] rfl
              have hDc := hD.sub (ws' := [(za, .inr (13, [.int 0, .ref z1, .int (nI z2), .int (nI z3), .int z4, .int z5, .ref z6, .ref z7, .ref z8, .ref z9, .int (nI z10), .ref z11, .ref z12, .ref z13, .ref z14, .ref z15, .int (nI z16), .ref z17, .int z18, .ref z19]))]) [0] (by decide) rfl
              have hKc := hK.sub (tys' := []) [] rfl
              have hFc := va_free (wc := [(za, .inr (13, [.int 0, .ref z1, .int (nI z2), .int (nI z3), .int z4, .int z5, .ref z6, .ref z7, .ref z8, .ref z9, .int (nI z10), .ref z11, .ref z12, .ref z13, .ref z14, .ref z15, .int (nI z16), .ref z17, .int z18, .ref z19]))]) hD hS hA [0] rfl
              refine va_calli (va_runV (As := [.int 9]) (rest := []) ⟨hx, hb, hml, hown, hg⟩ (m_refused l D H_1.size za 0 z1 (nI z2) (nI z3) z4 z5 z6 z7 z8 z9 (nI z10) z11 z12 z13 z14 z15 (nI z16) z17 z18 z19 9) (cwV 1 hg (gV wd_725 wd_726 wd_727 wd_717 wd_728) rfl rfl rfl (by decide +kernel) ⟨(Nat.le_trans (Nat.le_of_ble_eq_true rfl) hRf), (Nat.le_trans (Nat.le_of_ble_eq_true rfl) hRl)⟩) ⟨Pr.blind, va_recv hK hP (ci := 13) (q0 := 0) rfl rfl, fun U hU hW => ⟨rfl, Pr.at hPc hKc hDc hN hU hW⟩⟩ rfl rfl hl.1 rfl (lv_room (Nat.le_of_ble_eq_true rfl)) dX13_partner_86 ⟨(Nat.le_trans (Nat.le_of_ble_eq_true rfl) hRc), (Nat.le_trans (Nat.le_of_ble_eq_true rfl) hRs)⟩) hS (fun q _ h => hFc q h) hFc (fun r_207 M_208 t H_206 locs ht hvm hw hB hz1 hk1 hS => ?_)
              have hp_209 := hw
              obtain ⟨hP1, hK1, hD1⟩ := hB
              rw [ht] at hP1
              obtain ⟨hP, hD⟩ := va_joinQ (X := [(za, .inr (13, [.int 0, .ref z1, .int (nI z2), .int (nI z3), .int z4, .int z5, .ref z6, .ref z7, .ref z8, .ref z9, .int (nI z10), .ref z11, .ref z12, .ref z13, .ref z14, .ref z15, .int (nI z16), .ref z17, .int z18, .ref z19]))]) (cx := [(za, .inr (13, [.int 0, .ref z1, .int (nI z2), .int (nI z3), .int z4, .int z5, .ref z6, .ref z7, .ref z8, .ref z9, .int (nI z10), .ref z11, .ref z12, .ref z13, .ref z14, .ref z15, .int (nI z16), .ref z17, .int z18, .ref z19]))]) (wr := []) (w1 := [(za, .inr (13, [.int 0, .ref z1, .int (nI z2), .int (nI z3), .int 9, .int (-1), .ref z6, .ref z7, .ref z8, .ref z9, .int (nI z10), .ref z11, .ref z12, .ref z13, .ref z14, .ref z15, .int (nI z16), .ref z17, .int z18, .ref z19]))]) (pl := va_pl L M) hP hD [0] [] rfl rfl (by decide) (by decide) hk1 hFc hP1 hD1
              have hP : va_P D vwCl ([(za, .inr (13, [.int 0, .ref z1, .int (nI z2), .int (nI z3), .int 9, .int (-1), .ref z6, .ref z7, .ref z8, .ref z9, .int (nI z10), .ref z11, .ref z12, .ref z13, .ref z14, .ref z15, .int (nI z16), .ref z17, .int z18, .ref z19]))] ++ va_pl L M) H_206 := hP
              have hD : va_D A ([(za, .inr (13, [.int 0, .ref z1, .int (nI z2), .int (nI z3), .int 9, .int (-1), .ref z6, .ref z7, .ref z8, .ref z9, .int (nI z10), .ref z11, .ref z12, .ref z13, .ref z14, .ref z15, .int (nI z16), .ref z17, .int z18, .ref z19]))] ++ va_pl L M) := hD
              have hq := Eq.symm hp_209
              subst hq
              rw [hQ]
              exact W.iret (v := (-1)) hx hb hr (fun t ht hW9 => ⟨⟨(-1), M, rfl, ⟨hW, hF, trivial⟩, ⟨z3, 9, (-1), (by omega), by rw [ht]; exact hP, hD⟩⟩, hS.F ht⟩) hS.2.2 dX13_partner_89
          · have hz := rfl (a := 0)
            have n_210 : ¬ k2 < 0 := gtN (c := 1000000000) (by omega) (Int32.not_le.mp c_180)
            refine lv_aload_n hx hb dX13_partner_49 rfl (lv_at hl 1 rfl) ?_
            refine lv_iconst (v := 2) hx hb dX13_partner_50 (by decide) ?_
            have hPc := hP.sub (ws' := [(za, .inr (13, [.int 0, .ref z1, .int (nI z2), .int (nI z3), .int z4, .int z5, .ref z6, .ref z7, .ref z8, .ref z9, .int (nI z10), .ref z11, .ref z12, .ref z13, .ref z14, .ref z15, .int (nI z16), .ref z17, .int z18, .ref z19]))]) [0] rfl
            have hDc := hD.sub (ws' := [(za, .inr (13, [.int 0, .ref z1, .int (nI z2), .int (nI z3), .int z4, .int z5, .ref z6, .ref z7, .ref z8, .ref z9, .int (nI z10), .ref z11, .ref z12, .ref z13, .ref z14, .ref z15, .int (nI z16), .ref z17, .int z18, .ref z19]))]) [0] (by decide) rfl
            have hKc := hK.sub (tys' := []) [] rfl
            have hFc := va_free (wc := [(za, .inr (13, [.int 0, .ref z1, .int (nI z2), .int (nI z3), .int z4, .int z5, .ref z6, .ref z7, .ref z8, .ref z9, .int (nI z10), .ref z11, .ref z12, .ref z13, .ref z14, .ref z15, .int (nI z16), .ref z17, .int z18, .ref z19]))]) hD hS hA [0] rfl
            refine va_calli (va_runV (As := [.int 2]) (rest := []) ⟨hx, hb, hml, hown, hg⟩ (m_refused l D H_1.size za 0 z1 (nI z2) (nI z3) z4 z5 z6 z7 z8 z9 (nI z10) z11 z12 z13 z14 z15 (nI z16) z17 z18 z19 2) (cwV 1 hg (gV wd_725 wd_726 wd_727 wd_717 wd_728) rfl rfl rfl (by decide +kernel) ⟨(Nat.le_trans (Nat.le_of_ble_eq_true rfl) hRf), (Nat.le_trans (Nat.le_of_ble_eq_true rfl) hRl)⟩) ⟨Pr.blind, va_recv hK hP (ci := 13) (q0 := 0) rfl rfl, fun U hU hW => ⟨rfl, Pr.at hPc hKc hDc hN hU hW⟩⟩ rfl rfl hl.1 rfl (lv_room (Nat.le_of_ble_eq_true rfl)) dX13_partner_51 ⟨(Nat.le_trans (Nat.le_of_ble_eq_true rfl) hRc), (Nat.le_trans (Nat.le_of_ble_eq_true rfl) hRs)⟩) hS (fun q _ h => hFc q h) hFc (fun r_212 M_213 t H_211 locs ht hvm hw hB hz1 hk1 hS => ?_)
            have hp_214 := hw
            obtain ⟨hP1, hK1, hD1⟩ := hB
            rw [ht] at hP1
            obtain ⟨hP, hD⟩ := va_joinQ (X := [(za, .inr (13, [.int 0, .ref z1, .int (nI z2), .int (nI z3), .int z4, .int z5, .ref z6, .ref z7, .ref z8, .ref z9, .int (nI z10), .ref z11, .ref z12, .ref z13, .ref z14, .ref z15, .int (nI z16), .ref z17, .int z18, .ref z19]))]) (cx := [(za, .inr (13, [.int 0, .ref z1, .int (nI z2), .int (nI z3), .int z4, .int z5, .ref z6, .ref z7, .ref z8, .ref z9, .int (nI z10), .ref z11, .ref z12, .ref z13, .ref z14, .ref z15, .int (nI z16), .ref z17, .int z18, .ref z19]))]) (wr := []) (w1 := [(za, .inr (13, [.int 0, .ref z1, .int (nI z2), .int (nI z3), .int 2, .int (-1), .ref z6, .ref z7, .ref z8, .ref z9, .int (nI z10), .ref z11, .ref z12, .ref z13, .ref z14, .ref z15, .int (nI z16), .ref z17, .int z18, .ref z19]))]) (pl := va_pl L M) hP hD [0] [] rfl rfl (by decide) (by decide) hk1 hFc hP1 hD1
            have hP : va_P D vwCl ([(za, .inr (13, [.int 0, .ref z1, .int (nI z2), .int (nI z3), .int 2, .int (-1), .ref z6, .ref z7, .ref z8, .ref z9, .int (nI z10), .ref z11, .ref z12, .ref z13, .ref z14, .ref z15, .int (nI z16), .ref z17, .int z18, .ref z19]))] ++ va_pl L M) H_211 := hP
            have hD : va_D A ([(za, .inr (13, [.int 0, .ref z1, .int (nI z2), .int (nI z3), .int 2, .int (-1), .ref z6, .ref z7, .ref z8, .ref z9, .int (nI z10), .ref z11, .ref z12, .ref z13, .ref z14, .ref z15, .int (nI z16), .ref z17, .int z18, .ref z19]))] ++ va_pl L M) := hD
            have hq := Eq.symm hp_214
            subst hq
            rw [hQ]
            exact W.iret (v := (-1)) hx hb hr (fun t ht hW9 => ⟨⟨(-1), M, rfl, ⟨hW, hF, trivial⟩, ⟨z3, 2, (-1), (by omega), by rw [ht]; exact hP, hD⟩⟩, hS.F ht⟩) hS.2.2 dX13_partner_54
set_option maxHeartbeats 4000000 in
set_option maxRecDepth 100000 in
theorem r_X13_rule (l : Launch) (D : va_G) (cy : Nat → ClassId) (K : Kp) (L : List Nat) (M : Hp) (sz : Nat) (za : Nat) (z0 : Int32) (z1 : Nat) (z2 : Nat) (z3 : Nat) (z4 : Int32) (z5 : Int32) (z6 : Nat) (z7 : Nat) (z8 : Nat) (z9 : Nat) (z10 : Nat) (z11 : Nat) (z12 : Nat) (z13 : Nat) (z14 : Nat) (z15 : Nat) (z16 : Nat) (z17 : Nat) (z18 : Int32) (z19 : Nat) (k1 : Int32) (k2 : Int32) (hW : WOM cy K L M) (i1 : isk K L z1 23 8) (b2 : z2 ≤ 8) (b3 : z3 ≤ 40) (i6 : isk K L z6 47 40) (i7 : isk K L z7 48 40) (i8 : isk K L z8 49 8) (i9 : isk K L z9 50 8) (b10 : z10 ≤ 8) (i11 : isk K L z11 32 24) (i12 : isk K L z12 14 24) (i13 : isk K L z13 15 24) (i14 : isk K L z14 15 24) (i15 : isk K L z15 15 24) (b16 : z16 ≤ 24) (i17 : isk K L z17 14 24) (i19 : isk K L z19 15 25) : Met l yX13_rule (wsM yX13_rule cX13_rule 7 (some .int)) ({ frames := 1, cells := 0, slots := 0, locals := 21 }) (va_Pc [.ref za, .int k1, .int k2] (PG D cy [(za, .inr (13, [.int z0, .ref z1, .int (nI z2), .int (nI z3), .int z4, .int z5, .ref z6, .ref z7, .ref z8, .ref z9, .int (nI z10), .ref z11, .ref z12, .ref z13, .ref z14, .ref z15, .int (nI z16), .ref z17, .int z18, .ref z19]))] L M sz)) (va_Qi (fun (r : Int32) (M9 : Hp) => WOM cy K L M9 ∧ fr K L [12, 14, 43, 77, 78] M M9 ∧ fG K L [11] M M9 ∧ (True)) (fun M9 t => ∃ (w4 : Int32) (w5 : Int32), PQ D [(za, .inr (13, [.int 0, .ref z1, .int (nI z2), .int (nI z3), .int w4, .int w5, .ref z6, .ref z7, .ref z8, .ref z9, .int (nI z10), .ref z11, .ref z12, .ref z13, .ref z14, .ref z15, .int (nI z16), .ref z17, .int z18, .ref z19]))] L M9 (va_A ([(za, .inr (13, [.int z0, .ref z1, .int (nI z2), .int (nI z3), .int z4, .int z5, .ref z6, .ref z7, .ref z8, .ref z9, .int (nI z10), .ref z11, .ref z12, .ref z13, .ref z14, .ref z15, .int (nI z16), .ref z17, .int z18, .ref z19]))] ++ va_pl L M) sz) t) (va_A ([(za, .inr (13, [.int z0, .ref z1, .int (nI z2), .int (nI z3), .int z4, .int z5, .ref z6, .ref z7, .ref z8, .ref z9, .int (nI z10), .ref z11, .ref z12, .ref z13, .ref z14, .ref z15, .int (nI z16), .ref z17, .int z18, .ref z19]))] ++ va_pl L M) sz)) 0 0 (va_A ([(za, .inr (13, [.int z0, .ref z1, .int (nI z2), .int (nI z3), .int z4, .int z5, .ref z6, .ref z7, .ref z8, .ref z9, .int (nI z10), .ref z11, .ref z12, .ref z13, .ref z14, .ref z15, .int (nI z16), .ref z17, .int z18, .ref z19]))] ++ va_pl L M) sz) := by
  refine Met.ofW (cc := cX13_rule) (maxL := 7) (ret := (some .int)) (by decide) rfl ?_
  intro p e s m args below meth c s₁ B hml hv
  obtain ⟨rfl, hsz, hP, hK, hD0, hN⟩ := hv
  have hx := B.exec
  have hb := B.bytes
  have hr := B.returns
  have hts := atoms_spec (ws := (wsM yX13_rule cX13_rule 7 (some .int))) B.pre
  have hg : ∀ w ∈ lw_good, w.before _ s = true := fun w h => hts w (List.mem_cons_of_mem _ h)
  have hown : s.vm.findClass RX13 = some m.cls := findClass_of_methodNamed B.named
  have hlocks := B.notSynchronized
  subst hsz
  have hD := hD0.self (sz := s.heap.size)
  generalize hAe : va_A ([(za, .inr (13, [.int z0, .ref z1, .int (nI z2), .int (nI z3), .int z4, .int z5, .ref z6, .ref z7, .ref z8, .ref z9, .int (nI z10), .ref z11, .ref z12, .ref z13, .ref z14, .ref z15, .int (nI z16), .ref z17, .int z18, .ref z19]))] ++ va_pl L M) s.heap.size = A at hD ⊢
  have hA : ∀ q : Nat, s.heap.size ≤ q → A q := fun q h => by rw [← hAe]; exact Or.inr h
  have hS : va_S A s.heap s.heap [] := va_S.rf
  have hl := lv_entry ([.ref za, .int k1, .int k2]) (n := 7) (Nat.le_of_ble_eq_true rfl)
  rw [lg_entry_eq]
  generalize (lg_sl ([.ref za, .int k1, .int k2]) ++ List.replicate (7 - (lg_sl ([.ref za, .int k1, .int k2])).length) Slot.unset).toArray = ls at hl ⊢
  refine W.nameQ (fun Q hQ => ?_)
  refine W.nameR (fun R hR => ?_)
  have hRf : 1 ≤ R.frames := by rw [hR]; exact Nat.le_of_ble_eq_true rfl
  have hRl : 21 ≤ R.locals := by rw [hR]; exact Nat.le_of_ble_eq_true rfl
  have hRc : 0 ≤ R.cells := by rw [hR]; exact Nat.le_of_ble_eq_true rfl
  have hRs : 0 ≤ R.slots := by rw [hR]; exact Nat.le_of_ble_eq_true rfl
  have hF : fr K L [12, 14, 43, 77, 78] M M := fr.rf
  have hG : fG K L [11] M M := fG.rf
  have hl : lv_has ls 7 [(0, .ref za), (1, .int k1), (2, .int k2)] := hl
  refine lv_aload_n hx hb dX13_rule_0 rfl (lv_at hl 0 rfl) ?_
  refine lv_iconst (v := 0) hx hb dX13_rule_1 (by decide) ?_
  refine va_put (D := D) (ci := 13) (v := .int 0) (ty := .int) (C := RX13) (T := TX13) (N := 20) hx hb hg inG13 tyX13 tyX13_ok nmX13 hown hK hP hD hS 0 rfl rfl 0 (by decide) (hg _ wd_720) (fun _ h9 => h9) rfl (by decide +kernel) rfl rfl (Nat.le_of_ble_eq_true rfl) dX13_rule_2 (fun H_1 locs hP hD hS => ?_)
  have hP : va_P D vwCl ([(za, .inr (13, [.int 0, .ref z1, .int (nI z2), .int (nI z3), .int z4, .int z5, .ref z6, .ref z7, .ref z8, .ref z9, .int (nI z10), .ref z11, .ref z12, .ref z13, .ref z14, .ref z15, .int (nI z16), .ref z17, .int z18, .ref z19]))] ++ va_pl L M) H_1 := hP
  have hD : va_D A ([(za, .inr (13, [.int 0, .ref z1, .int (nI z2), .int (nI z3), .int z4, .int z5, .ref z6, .ref z7, .ref z8, .ref z9, .int (nI z10), .ref z11, .ref z12, .ref z13, .ref z14, .ref z15, .int (nI z16), .ref z17, .int z18, .ref z19]))] ++ va_pl L M) := hD
  refine lv_aload_n hx hb dX13_rule_5 rfl (lv_at hl 0 rfl) ?_
  refine lv_iload_n hx hb dX13_rule_6 rfl (lv_at hl 1 rfl) ?_
  have hPc : va_P D vwCl ([(za, .inr (13, [.int 0, .ref z1, .int (nI z2), .int (nI z3), .int z4, .int z5, .ref z6, .ref z7, .ref z8, .ref z9, .int (nI z10), .ref z11, .ref z12, .ref z13, .ref z14, .ref z15, .int (nI z16), .ref z17, .int z18, .ref z19]))] ++ va_pl L M) H_1 := hP
  have hDc : va_D A ([(za, .inr (13, [.int 0, .ref z1, .int (nI z2), .int (nI z3), .int z4, .int z5, .ref z6, .ref z7, .ref z8, .ref z9, .int (nI z10), .ref z11, .ref z12, .ref z13, .ref z14, .ref z15, .int (nI z16), .ref z17, .int z18, .ref z19]))] ++ va_pl L M) := hD
  have hFc : ∀ q, va_A ([(za, .inr (13, [.int 0, .ref z1, .int (nI z2), .int (nI z3), .int z4, .int z5, .ref z6, .ref z7, .ref z8, .ref z9, .int (nI z10), .ref z11, .ref z12, .ref z13, .ref z14, .ref z15, .int (nI z16), .ref z17, .int z18, .ref z19]))] ++ va_pl L M) H_1.size q → A q := pg_free hDc hS hA
  refine va_calli (va_runV (As := [.int k1]) (rest := []) ⟨hx, hb, hml, hown, hg⟩ (r_X13_isHouse l D cy K L M H_1.size za 0 z1 z2 z3 z4 z5 z6 z7 z8 z9 z10 z11 z12 z13 z14 z15 z16 z17 z18 z19 k1  hW i1 b2 b3 i6 i7 i8 i9 b10 i11 i12 i13 i14 i15 b16 i17 i19) (cwV 1 hg (gV wd_714 wd_715 wd_716 wd_717 wd_718) rfl rfl rfl (by decide +kernel) ⟨(Nat.le_trans (Nat.le_of_ble_eq_true rfl) hRf), (Nat.le_trans (Nat.le_of_ble_eq_true rfl) hRl)⟩) ⟨PG.blind, va_recv hK hP (ci := 13) (q0 := 0) rfl rfl, fun U hU hW => ⟨rfl, PG.at hPc hK hDc hN hU hW⟩⟩ rfl rfl hl.1 rfl (lv_room (Nat.le_of_ble_eq_true rfl)) dX13_rule_7 ⟨(Nat.le_trans (Nat.le_of_ble_eq_true rfl) hRc), (Nat.le_trans (Nat.le_of_ble_eq_true rfl) hRs)⟩) hS (fun q _ h => hFc q h) hFc (fun r_3 M_4 t H_2 locs ht hvm hw hB hz1 hk1 hS => ?_)
  have hp_5 := hw
  obtain ⟨hP1, hD1⟩ := hB
  rw [ht] at hP1
  have hP : va_P D vwCl ([(za, .inr (13, [.int 0, .ref z1, .int (nI z2), .int (nI z3), .int z4, .int z5, .ref z6, .ref z7, .ref z8, .ref z9, .int (nI z10), .ref z11, .ref z12, .ref z13, .ref z14, .ref z15, .int (nI z16), .ref z17, .int z18, .ref z19]))] ++ va_pl L M) H_2 := hP1
  have hD : va_D A ([(za, .inr (13, [.int 0, .ref z1, .int (nI z2), .int (nI z3), .int z4, .int z5, .ref z6, .ref z7, .ref z8, .ref z9, .int (nI z10), .ref z11, .ref z12, .ref z13, .ref z14, .ref z15, .int (nI z16), .ref z17, .int z18, .ref z19]))] ++ va_pl L M) := hD1.mono hFc
  rcases hp_5 with ⟨rfl, c_6, c_7⟩ | rfl
  · have hz := rfl (a := 0)
    refine lv_if_ne (tgt := 19) hx hb dX13_rule_10 (by decide) (fun _ => ?_) (fun c_8 => absurd c_8 (by decide))
    refine lv_aload_n hx hb dX13_rule_19 rfl (lv_at hl 0 rfl) ?_
    refine va_get (D := D) (ci := 13) (v := .ref z1) (C := RX13) (T := TX13) (N := 20) hx hb hg inG13 hown hK hP 0 rfl rfl 1 (by decide) (hg _ wd_739) (fun _ h9 => h9) rfl dX13_rule_20 ?_
    refine lv_iload_n hx hb dX13_rule_23 rfl (lv_at hl 1 rfl) ?_
    obtain ⟨f9, hM9, hf9⟩ := hW.open_23 i1
    have hi_10 : vp_in k1 8 := (inbW (a := z2) (by omega) (inb k1 z2 (by omega) c_6 c_7))
    refine pg_aldq hx hb hK hP i1.1 9 hM9 rfl hi_10 dX13_rule_24 ?_
    obtain ⟨b11, eb_12, hb_13⟩ := hf9 _ (vp_lt hi_10)
    rw [eb_12]
    refine lv_astore_n (lv' := [(3, .ref b11), (0, .ref za), (1, .int k1), (2, .int k2)]) hx hb dX13_rule_25 rfl hl (by decide) rfl (fun ls hl => ?_)
    refine lv_aload_n hx hb dX13_rule_26 rfl (lv_at hl 0 rfl) ?_
    refine lv_iload_n hx hb dX13_rule_27 rfl (lv_at hl 3 rfl) ?_
    obtain ⟨fs14, hM14, hn14, hl14⟩ := hW.open_12 hb_13
    have hPc : va_P D vwCl ([] ++ va_pl L M) H_2 := hP.part (cx := []) [] rfl
    have hDc : va_D A ([] ++ va_pl L M) := hD.part (cx := []) [] (by decide) rfl
    have hFc : ∀ q, va_A ([] ++ va_pl L M) H_2.size q → A q := pg_free hDc hS hA
    refine va_calli (va_runV (As := [.int k2]) (rest := []) ⟨hx, hb, hml, hown, hg⟩ (r_X12_isFree l D cy K L M H_2.size b11 k2  hW hb_13) (cwV 1 hg (gV wd_807 wd_808 wd_809 wd_737 wd_810) rfl rfl rfl (by decide +kernel) ⟨(Nat.le_trans (Nat.le_of_ble_eq_true rfl) hRf), (Nat.le_trans (Nat.le_of_ble_eq_true rfl) hRl)⟩) ⟨PG.blind, pg_recv hK hP hb_13.1 hM14 rfl, fun U hU hW => ⟨rfl, PG.at hPc hK hDc hN hU hW⟩⟩ rfl rfl hl.1 rfl (lv_room (Nat.le_of_ble_eq_true rfl)) dX13_rule_28 ⟨(Nat.le_trans (Nat.le_of_ble_eq_true rfl) hRc), (Nat.le_trans (Nat.le_of_ble_eq_true rfl) hRs)⟩) hS (fun q _ h => hFc q h) hFc (fun r_16 M_17 t H_15 locs ht hvm hw hB hz1 hk1 hS => ?_)
    have hp_18 := hw
    obtain ⟨hP1, hD1⟩ := hB
    rw [ht] at hP1
    obtain ⟨hP, hD⟩ := va_joinP (X := [(za, .inr (13, [.int 0, .ref z1, .int (nI z2), .int (nI z3), .int z4, .int z5, .ref z6, .ref z7, .ref z8, .ref z9, .int (nI z10), .ref z11, .ref z12, .ref z13, .ref z14, .ref z15, .int (nI z16), .ref z17, .int z18, .ref z19]))]) (cx := []) (wr := [(za, .inr (13, [.int 0, .ref z1, .int (nI z2), .int (nI z3), .int z4, .int z5, .ref z6, .ref z7, .ref z8, .ref z9, .int (nI z10), .ref z11, .ref z12, .ref z13, .ref z14, .ref z15, .int (nI z16), .ref z17, .int z18, .ref z19]))]) (rx := []) (pl := va_pl L M) (pl1 := va_pl L M) hP hD [] [0] rfl rfl (by decide) (by decide) hk1 hFc hP1 hD1
    have hP : va_P D vwCl ([(za, .inr (13, [.int 0, .ref z1, .int (nI z2), .int (nI z3), .int z4, .int z5, .ref z6, .ref z7, .ref z8, .ref z9, .int (nI z10), .ref z11, .ref z12, .ref z13, .ref z14, .ref z15, .int (nI z16), .ref z17, .int z18, .ref z19]))] ++ va_pl L M) H_15 := hP
    have hD : va_D A ([(za, .inr (13, [.int 0, .ref z1, .int (nI z2), .int (nI z3), .int z4, .int z5, .ref z6, .ref z7, .ref z8, .ref z9, .int (nI z10), .ref z11, .ref z12, .ref z13, .ref z14, .ref z15, .int (nI z16), .ref z17, .int z18, .ref z19]))] ++ va_pl L M) := hD
    rcases hp_18 with ⟨rfl, c_19, c_20⟩ | rfl
    · have hz := rfl (a := 0)
      refine lv_if_eq (tgt := 71) hx hb dX13_rule_31 (by decide) (fun c_21 => absurd c_21 (by decide)) (fun _ => ?_)
      refine lv_aload_n hx hb dX13_rule_34 rfl (lv_at hl 0 rfl) ?_
      obtain ⟨v22, hv22, hc22⟩ : ∃ v : Nat, fs14[11]? = some (.int (nI v) : Value) ∧ v ≤ 16 := hl14 11 (by decide)
      refine pg_getN (D := D) (ci := 12) (v := .int (nI v22)) (C := RX12) (T := TX12) (N := 51) hx hb hg inG12 hown hK hP hb_13.1 hM14 rfl 11 (by decide) (hN.use (Cond.fieldLinkNest RX13 142 RX12 "rules" "I" RX13) 20 rfl rfl) (fun _ h9 => h9) hv22 dX13_rule_35 ?_
      refine lv_if_ne (tgt := 52) hx hb dX13_rule_38 (by decide) (fun c_23 => ?_) (fun c_23 => ?_)
      · have hz := rfl (a := 0)
        have n_24 : ¬ (v22 = 0) := fun q => c_23 ((iEQ (a := v22) (b := 0) (by omega) (by omega)).mpr q)
        refine lv_iload_n hx hb dX13_rule_52 rfl (lv_at hl 3 rfl) ?_
        refine lv_aload_n hx hb dX13_rule_53 rfl (lv_at hl 0 rfl) ?_
        obtain ⟨v25, hv25, hc25⟩ : ∃ v : Nat, fs14[34]? = some (.ref v : Value) ∧ isk K L v 43 16 := hl14 34 (by decide)
        refine pg_getN (D := D) (ci := 12) (v := .ref v25) (C := RX12) (T := TX12) (N := 51) hx hb hg inG12 hown hK hP hb_13.1 hM14 rfl 34 (by decide) (hN.use (Cond.fieldLinkNest RX13 145 RX12 "ruleDay" "[I" RX13) 43 rfl rfl) (fun _ h9 => h9) hv25 dX13_rule_54 ?_
        refine lv_aload_n hx hb dX13_rule_57 rfl (lv_at hl 0 rfl) ?_
        refine pg_getN (D := D) (ci := 12) (v := .int (nI v22)) (C := RX12) (T := TX12) (N := 51) hx hb hg inG12 hown hK hP hb_13.1 hM14 rfl 11 (by decide) (hN.use (Cond.fieldLinkNest RX13 142 RX12 "rules" "I" RX13) 20 rfl rfl) (fun _ h9 => h9) hv22 dX13_rule_58 ?_
        refine lv_iconst (v := 1) hx hb dX13_rule_61 (by decide) ?_
        refine lv_isub hx hb dX13_rule_62 ?_
        refine lv_topi (fun f_26 ef_26 => ?_)
        obtain rfl : f_26 = (nI (v22 - 1)) := ef_26.trans (nI_prd (by omega))
        obtain ⟨f27, hM27⟩ := hW.open_43 hc25
        refine pg_iald hx hb hK hP hc25.1 0 hM27 rfl (inbN (v22 - 1) 16 (by omega) (by omega)) dX13_rule_63 ?_
        refine lv_topi (fun f_28 ef_28 => ?_)
        refine lv_icmp_le (tgt := 71) hx hb dX13_rule_64 (by decide) (fun c_29 => ?_) (fun c_29 => ?_)
        · have hz := rfl (a := 0)
          refine lv_iconst (v := 0) hx hb dX13_rule_71 (by decide) ?_
          refine lv_istore (lv' := [(4, .int 0), (3, .ref b11), (0, .ref za), (1, .int k1), (2, .int k2)]) hx hb dX13_rule_72 hl (by decide) rfl (fun ls hl => ?_)
          refine lv_iload hx hb dX13_rule_74 (lv_at hl 0 rfl) ?_
          refine lv_if_ne (tgt := 85) hx hb dX13_rule_76 (by decide) (fun c_30 => absurd c_30 (by decide)) (fun _ => ?_)
          refine lv_aload_n hx hb dX13_rule_79 rfl (lv_at hl 2 rfl) ?_
          refine lv_iconst (v := 3) hx hb dX13_rule_80 (by decide) ?_
          have hPc := hP.sub (ws' := [(za, .inr (13, [.int 0, .ref z1, .int (nI z2), .int (nI z3), .int z4, .int z5, .ref z6, .ref z7, .ref z8, .ref z9, .int (nI z10), .ref z11, .ref z12, .ref z13, .ref z14, .ref z15, .int (nI z16), .ref z17, .int z18, .ref z19]))]) [0] rfl
          have hDc := hD.sub (ws' := [(za, .inr (13, [.int 0, .ref z1, .int (nI z2), .int (nI z3), .int z4, .int z5, .ref z6, .ref z7, .ref z8, .ref z9, .int (nI z10), .ref z11, .ref z12, .ref z13, .ref z14, .ref z15, .int (nI z16), .ref z17, .int z18, .ref z19]))]) [0] (by decide) rfl
          have hKc := hK.sub (tys' := []) [] rfl
          have hFc := va_free (wc := [(za, .inr (13, [.int 0, .ref z1, .int (nI z2), .int (nI z3), .int z4, .int z5, .ref z6, .ref z7, .ref z8, .ref z9, .int (nI z10), .ref z11, .ref z12, .ref z13, .ref z14, .ref z15, .int (nI z16), .ref z17, .int z18, .ref z19]))]) hD hS hA [0] rfl
          refine va_calli (va_runV (As := [.int 3]) (rest := []) ⟨hx, hb, hml, hown, hg⟩ (m_refused l D H_15.size za 0 z1 (nI z2) (nI z3) z4 z5 z6 z7 z8 z9 (nI z10) z11 z12 z13 z14 z15 (nI z16) z17 z18 z19 3) (cwV 1 hg (gV wd_725 wd_726 wd_727 wd_717 wd_728) rfl rfl rfl (by decide +kernel) ⟨(Nat.le_trans (Nat.le_of_ble_eq_true rfl) hRf), (Nat.le_trans (Nat.le_of_ble_eq_true rfl) hRl)⟩) ⟨Pr.blind, va_recv hK hP (ci := 13) (q0 := 0) rfl rfl, fun U hU hW => ⟨rfl, Pr.at hPc hKc hDc hN hU hW⟩⟩ rfl rfl hl.1 rfl (lv_room (Nat.le_of_ble_eq_true rfl)) dX13_rule_81 ⟨(Nat.le_trans (Nat.le_of_ble_eq_true rfl) hRc), (Nat.le_trans (Nat.le_of_ble_eq_true rfl) hRs)⟩) hS (fun q _ h => hFc q h) hFc (fun r_32 M_33 t H_31 locs ht hvm hw hB hz1 hk1 hS => ?_)
          have hp_34 := hw
          obtain ⟨hP1, hK1, hD1⟩ := hB
          rw [ht] at hP1
          obtain ⟨hP, hD⟩ := va_joinQ (X := [(za, .inr (13, [.int 0, .ref z1, .int (nI z2), .int (nI z3), .int z4, .int z5, .ref z6, .ref z7, .ref z8, .ref z9, .int (nI z10), .ref z11, .ref z12, .ref z13, .ref z14, .ref z15, .int (nI z16), .ref z17, .int z18, .ref z19]))]) (cx := [(za, .inr (13, [.int 0, .ref z1, .int (nI z2), .int (nI z3), .int z4, .int z5, .ref z6, .ref z7, .ref z8, .ref z9, .int (nI z10), .ref z11, .ref z12, .ref z13, .ref z14, .ref z15, .int (nI z16), .ref z17, .int z18, .ref z19]))]) (wr := []) (w1 := [(za, .inr (13, [.int 0, .ref z1, .int (nI z2), .int (nI z3), .int 3, .int (-1), .ref z6, .ref z7, .ref z8, .ref z9, .int (nI z10), .ref z11, .ref z12, .ref z13, .ref z14, .ref z15, .int (nI z16), .ref z17, .int z18, .ref z19]))]) (pl := va_pl L M) hP hD [0] [] rfl rfl (by decide) (by decide) hk1 hFc hP1 hD1
          have hP : va_P D vwCl ([(za, .inr (13, [.int 0, .ref z1, .int (nI z2), .int (nI z3), .int 3, .int (-1), .ref z6, .ref z7, .ref z8, .ref z9, .int (nI z10), .ref z11, .ref z12, .ref z13, .ref z14, .ref z15, .int (nI z16), .ref z17, .int z18, .ref z19]))] ++ va_pl L M) H_31 := hP
          have hD : va_D A ([(za, .inr (13, [.int 0, .ref z1, .int (nI z2), .int (nI z3), .int 3, .int (-1), .ref z6, .ref z7, .ref z8, .ref z9, .int (nI z10), .ref z11, .ref z12, .ref z13, .ref z14, .ref z15, .int (nI z16), .ref z17, .int z18, .ref z19]))] ++ va_pl L M) := hD
          have hq := Eq.symm hp_34
          subst hq
          rw [hQ]
          exact W.iret (v := (-1)) hx hb hr (fun t ht hW9 => ⟨⟨(-1), M, rfl, ⟨hW, hF, hG, trivial⟩, ⟨3, (-1), by rw [ht]; exact hP, hD⟩⟩, hS.F ht⟩) hS.2.2 dX13_rule_84
        · have hz := rfl (a := 0)
          refine lv_iconst (v := 1) hx hb dX13_rule_67 (by decide) ?_
          refine lv_goto (tgt := 72) hx hb dX13_rule_68 (by decide) ?_
          refine lv_istore (lv' := [(4, .int 1), (3, .ref b11), (0, .ref za), (1, .int k1), (2, .int k2)]) hx hb dX13_rule_72 hl (by decide) rfl (fun ls hl => ?_)
          refine lv_iload hx hb dX13_rule_74 (lv_at hl 0 rfl) ?_
          refine lv_if_ne (tgt := 85) hx hb dX13_rule_76 (by decide) (fun _ => ?_) (fun c_35 => absurd c_35 (by decide))
          refine lv_aload_n hx hb dX13_rule_85 rfl (lv_at hl 1 rfl) ?_
          refine pg_getN (D := D) (ci := 12) (v := .int (nI v22)) (C := RX12) (T := TX12) (N := 51) hx hb hg inG12 hown hK hP hb_13.1 hM14 rfl 11 (by decide) (hN.use (Cond.fieldLinkNest RX13 142 RX12 "rules" "I" RX13) 20 rfl rfl) (fun _ h9 => h9) hv22 dX13_rule_86 ?_
          refine lv_bipush (v := 16) hx hb dX13_rule_89 (by decide) ?_
          refine lv_icmp_ne (tgt := 101) hx hb dX13_rule_91 (by decide) (fun c_36 => ?_) (fun c_36 => ?_)
          · have hz := rfl (a := 0)
            have n_37 : ¬ (v22 = 16) := fun q => c_36 ((iEQ (a := v22) (b := 16) (by omega) (by omega)).mpr q)
            refine lv_bipush (v := 24) hx hb dX13_rule_101 (by decide) ?_
            refine lv_istore (lv' := [(5, .int 24), (4, .int 1), (3, .ref b11), (0, .ref za), (1, .int k1), (2, .int k2)]) hx hb dX13_rule_103 hl (by decide) rfl (fun ls hl => ?_)
            refine lv_iconst (v := 0) hx hb dX13_rule_105 (by decide) ?_
            refine lv_istore (lv' := [(6, .int 0), (5, .int 24), (4, .int 1), (3, .ref b11), (0, .ref za), (1, .int k1), (2, .int k2)]) hx hb dX13_rule_106 hl (by decide) rfl (fun ls hl => ?_)
            have key_38 : ∀ (fu_40 : Nat) (v6w41 : Nat) (M_43 : Hp) (H_44 : Heap) (locs : List Loc) (ls : Array Slot), 24 - v6w41 < fu_40 → M_43 b11 = .inr (12, fs14) → v6w41 ≤ 24 → WOM cy K L M_43 → fr K L [12, 14, 43, 77, 78] M M_43 → fG K L [11] M M_43 → va_P D vwCl ([(za, .inr (13, [.int 0, .ref z1, .int (nI z2), .int (nI z3), .int z4, .int z5, .ref z6, .ref z7, .ref z8, .ref z9, .int (nI z10), .ref z11, .ref z12, .ref z13, .ref z14, .ref z15, .int (nI z16), .ref z17, .int z18, .ref z19]))] ++ va_pl L M_43) H_44 → va_D A ([(za, .inr (13, [.int 0, .ref z1, .int (nI z2), .int (nI z3), .int z4, .int z5, .ref z6, .ref z7, .ref z8, .ref z9, .int (nI z10), .ref z11, .ref z12, .ref z13, .ref z14, .ref z15, .int (nI z16), .ref z17, .int z18, .ref z19]))] ++ va_pl L M_43) → va_S A s.heap H_44 locs → lv_has ls 7 [(6, .int (nI v6w41)), (5, .int 24), (4, .int 1), (3, .ref b11), (0, .ref za), (1, .int k1), (2, .int k2)] → W p l e R s m ([.ref za, .int k1, .int k2] : List Value).toArray below meth c H_44 locs 0 0 Q (F0 m 108 ls []) := by
              intro fu_40
              induction fu_40 with
              | zero => intro v6w41 M_43 H_44 locs ls h; exact absurd h (Nat.not_lt_zero _)
              | succ fu_40 ih_39 =>
                intro v6w41 M_43 H_44 locs ls hfu hM_45 hx_42 hW hF hG hP hD hS hl
                refine lv_iload hx hb dX13_rule_108 (lv_at hl 0 rfl) ?_
                refine lv_iload hx hb dX13_rule_110 (lv_at hl 1 rfl) ?_
                refine lv_icmp_ge (tgt := 164) hx hb dX13_rule_112 (by decide) (fun c_46 => ?_) (fun c_46 => ?_)
                · have hz := rfl (a := 0)
                  have n_47 : 24 ≤ v6w41 := (iLE (a := 24) (b := v6w41) (by omega) (by omega)).mp c_46
                  refine lv_aload_n hx hb dX13_rule_164 rfl (lv_at hl 3 rfl) ?_
                  obtain ⟨v48, hv48, hc48⟩ : ∃ v : Nat, fs14[35]? = some (.ref v : Value) ∧ isk K L v 77 16 := hl14 35 (by decide)
                  refine pg_getN (D := D) (ci := 12) (v := .ref v48) (C := RX12) (T := TX12) (N := 51) hx hb hg inG12 hown hK hP hb_13.1 hM_45 rfl 35 (by decide) (hN.use (Cond.fieldLinkNest RX13 151 RX12 "thousandths" "[I" RX13) 44 rfl rfl) (fun _ h9 => h9) hv48 dX13_rule_165 ?_
                  refine lv_aload_n hx hb dX13_rule_168 rfl (lv_at hl 3 rfl) ?_
                  refine pg_getN (D := D) (ci := 12) (v := .int (nI v22)) (C := RX12) (T := TX12) (N := 51) hx hb hg inG12 hown hK hP hb_13.1 hM_45 rfl 11 (by decide) (hN.use (Cond.fieldLinkNest RX13 142 RX12 "rules" "I" RX13) 20 rfl rfl) (fun _ h9 => h9) hv22 dX13_rule_169 ?_
                  refine lv_aload_n hx hb dX13_rule_172 rfl (lv_at hl 3 rfl) ?_
                  refine pg_getN (D := D) (ci := 12) (v := .int (nI v22)) (C := RX12) (T := TX12) (N := 51) hx hb hg inG12 hown hK hP hb_13.1 hM_45 rfl 11 (by decide) (hN.use (Cond.fieldLinkNest RX13 142 RX12 "rules" "I" RX13) 20 rfl rfl) (fun _ h9 => h9) hv22 dX13_rule_173 ?_
                  refine lv_if_ne (tgt := 183) hx hb dX13_rule_176 (by decide) (fun c_49 => ?_) (fun c_49 => absurd c_49 c_23)
                  refine lv_aload_n hx hb dX13_rule_183 rfl (lv_at hl 3 rfl) ?_
                  refine pg_getN (D := D) (ci := 12) (v := .ref v48) (C := RX12) (T := TX12) (N := 51) hx hb hg inG12 hown hK hP hb_13.1 hM_45 rfl 35 (by decide) (hN.use (Cond.fieldLinkNest RX13 151 RX12 "thousandths" "[I" RX13) 44 rfl rfl) (fun _ h9 => h9) hv48 dX13_rule_184 ?_
                  refine lv_aload_n hx hb dX13_rule_187 rfl (lv_at hl 3 rfl) ?_
                  refine pg_getN (D := D) (ci := 12) (v := .int (nI v22)) (C := RX12) (T := TX12) (N := 51) hx hb hg inG12 hown hK hP hb_13.1 hM_45 rfl 11 (by decide) (hN.use (Cond.fieldLinkNest RX13 142 RX12 "rules" "I" RX13) 20 rfl rfl) (fun _ h9 => h9) hv22 dX13_rule_188 ?_
                  refine lv_iconst (v := 1) hx hb dX13_rule_191 (by decide) ?_
                  refine lv_isub hx hb dX13_rule_192 ?_
                  refine lv_topi (fun f_50 ef_50 => ?_)
                  obtain rfl : f_50 = (nI (v22 - 1)) := ef_50.trans (nI_prd (by omega))
                  obtain ⟨f51, hM51⟩ := hW.open_77 hc48
                  refine pg_iald hx hb hK hP hc48.1 0 hM51 rfl (inbN (v22 - 1) 16 (by omega) (by omega)) dX13_rule_193 ?_
                  refine lv_topi (fun f_52 ef_52 => ?_)
                  refine pg_iast hx hb hK hP hD hS hc48.1 0 hM51 rfl (inbN v22 16 (by omega) (by omega)) dX13_rule_194 (fun H_53 locs hP hD hS => ?_)
                  obtain ⟨M_54, eM_54⟩ : ∃ M1 : Hp, M1 = va_up M_43 v48 (.inl (cy 14, 16, .inl (upd f51 ((nI v22) : Int32).toNatClampNeg f_52))) := ⟨_, rfl⟩
                  have hP : va_P D vwCl ([(za, .inr (13, [.int 0, .ref z1, .int (nI z2), .int (nI z3), .int z4, .int z5, .ref z6, .ref z7, .ref z8, .ref z9, .int (nI z10), .ref z11, .ref z12, .ref z13, .ref z14, .ref z15, .int (nI z16), .ref z17, .int z18, .ref z19]))] ++ va_pl L M_54) H_53 := by rw [eM_54]; exact hP
                  have hD : va_D A ([(za, .inr (13, [.int 0, .ref z1, .int (nI z2), .int (nI z3), .int z4, .int z5, .ref z6, .ref z7, .ref z8, .ref z9, .int (nI z10), .ref z11, .ref z12, .ref z13, .ref z14, .ref z15, .int (nI z16), .ref z17, .int z18, .ref z19]))] ++ va_pl L M_54) := by rw [eM_54]; exact hD
                  have hW : WOM cy K L M_54 := by rw [eM_54]; exact hW.up_77 hc48 ⟨_, rfl⟩
                  have hF : fr K L [12, 14, 43, 77, 78] M M_54 := by rw [eM_54]; exact hF.up hc48 (by decide)
                  have hG : fG K L [11] M M_54 := by rw [eM_54]; exact hG.arr hc48 (by decide)
                  have hM_55 : M_54 v48 = .inl (cy 14, 16, .inl (upd f51 ((nI v22) : Int32).toNatClampNeg f_52)) := by rw [eM_54]; exact va_up_self _ _ _
                  have hM_56 : M_54 b11 = .inr (12, fs14) := by rw [eM_54, va_up_ne _ _ (hb_13.neT hc48 (by decide))]; exact hM_45
                  obtain ⟨f_57, ef_57⟩ : ∃ f : Nat → Int32, f = upd f51 ((nI v22) : Int32).toNatClampNeg f_52 := ⟨_, rfl⟩
                  rw [← ef_57] at hM_55
                  clear ef_57
                  refine lv_aload_n hx hb dX13_rule_195 rfl (lv_at hl 3 rfl) ?_
                  refine pg_getN (D := D) (ci := 12) (v := .ref v25) (C := RX12) (T := TX12) (N := 51) hx hb hg inG12 hown hK hP hb_13.1 hM_56 rfl 34 (by decide) (hN.use (Cond.fieldLinkNest RX13 145 RX12 "ruleDay" "[I" RX13) 43 rfl rfl) (fun _ h9 => h9) hv25 dX13_rule_196 ?_
                  refine lv_aload_n hx hb dX13_rule_199 rfl (lv_at hl 3 rfl) ?_
                  refine pg_getN (D := D) (ci := 12) (v := .int (nI v22)) (C := RX12) (T := TX12) (N := 51) hx hb hg inG12 hown hK hP hb_13.1 hM_56 rfl 11 (by decide) (hN.use (Cond.fieldLinkNest RX13 142 RX12 "rules" "I" RX13) 20 rfl rfl) (fun _ h9 => h9) hv22 dX13_rule_200 ?_
                  refine lv_iload_n hx hb dX13_rule_203 rfl (lv_at hl 6 rfl) ?_
                  obtain ⟨f58, hM58⟩ := hW.open_43 hc25
                  refine pg_iast hx hb hK hP hD hS hc25.1 0 hM58 rfl (inbN v22 16 (by omega) (by omega)) dX13_rule_204 (fun H_59 locs hP hD hS => ?_)
                  obtain ⟨M_60, eM_60⟩ : ∃ M1 : Hp, M1 = va_up M_54 v25 (.inl (cy 14, 16, .inl (upd f58 ((nI v22) : Int32).toNatClampNeg k2))) := ⟨_, rfl⟩
                  have hP : va_P D vwCl ([(za, .inr (13, [.int 0, .ref z1, .int (nI z2), .int (nI z3), .int z4, .int z5, .ref z6, .ref z7, .ref z8, .ref z9, .int (nI z10), .ref z11, .ref z12, .ref z13, .ref z14, .ref z15, .int (nI z16), .ref z17, .int z18, .ref z19]))] ++ va_pl L M_60) H_59 := by rw [eM_60]; exact hP
                  have hD : va_D A ([(za, .inr (13, [.int 0, .ref z1, .int (nI z2), .int (nI z3), .int z4, .int z5, .ref z6, .ref z7, .ref z8, .ref z9, .int (nI z10), .ref z11, .ref z12, .ref z13, .ref z14, .ref z15, .int (nI z16), .ref z17, .int z18, .ref z19]))] ++ va_pl L M_60) := by rw [eM_60]; exact hD
                  have hW : WOM cy K L M_60 := by rw [eM_60]; exact hW.up_43 hc25 ⟨_, rfl⟩
                  have hF : fr K L [12, 14, 43, 77, 78] M M_60 := by rw [eM_60]; exact hF.up hc25 (by decide)
                  have hG : fG K L [11] M M_60 := by rw [eM_60]; exact hG.arr hc25 (by decide)
                  have hM_61 : M_60 v25 = .inl (cy 14, 16, .inl (upd f58 ((nI v22) : Int32).toNatClampNeg k2)) := by rw [eM_60]; exact va_up_self _ _ _
                  have hM_62 : M_60 v48 = .inl (cy 14, 16, .inl (f_57)) := by rw [eM_60, va_up_ne _ _ (hc48.neT hc25 (by decide))]; exact hM_55
                  have hM_63 : M_60 b11 = .inr (12, fs14) := by rw [eM_60, va_up_ne _ _ (hb_13.neT hc25 (by decide))]; exact hM_56
                  obtain ⟨f_64, ef_64⟩ : ∃ f : Nat → Int32, f = upd f58 ((nI v22) : Int32).toNatClampNeg k2 := ⟨_, rfl⟩
                  rw [← ef_64] at hM_61
                  clear ef_64
                  refine lv_aload_n hx hb dX13_rule_205 rfl (lv_at hl 3 rfl) ?_
                  refine lv_dup hx hb dX13_rule_206 rfl ?_
                  refine pg_getN (D := D) (ci := 12) (v := .int (nI v22)) (C := RX12) (T := TX12) (N := 51) hx hb hg inG12 hown hK hP hb_13.1 hM_63 rfl 11 (by decide) (hN.use (Cond.fieldLinkNest RX13 142 RX12 "rules" "I" RX13) 20 rfl rfl) (fun _ h9 => h9) hv22 dX13_rule_207 ?_
                  refine lv_iconst (v := 1) hx hb dX13_rule_210 (by decide) ?_
                  refine lv_iadd hx hb dX13_rule_211 ?_
                  refine lv_topi (fun f_65 ef_65 => ?_)
                  obtain rfl : f_65 = (nI (v22 + 1)) := ef_65.trans (nI_add v22 1)
                  refine pg_putN (D := D) (ci := 12) (v := .int (nI (v22 + 1))) (ty := .int) (C := RX12) (T := TX12) (N := 51) hx hb hg inG12 tyX12 tyX12_ok nmX12 hown hK hP hD hS hb_13.1 hM_63 rfl 11 (by decide) (hN.use (Cond.fieldLinkNest RX13 142 RX12 "rules" "I" RX13) 20 rfl rfl) (fun _ h9 => h9) rfl (by decide +kernel) rfl rfl (by rw [hn14]; decide) dX13_rule_212 (fun H_66 locs hP hD hS => ?_)
                  have hs_69 : (fs14.set 11 (.int (nI (v22 + 1))))[11]? = some (.int (nI (v22 + 1))) := List.getElem?_set_self (by rw [hn14]; decide)
                  have hk_68 := fld12_set (k := 11) (w := .int (nI (v22 + 1))) hl14 (show fld12 K L 11 (fs14.set 11 (.int (nI (v22 + 1)))) from ⟨(v22 + 1), hs_69, by omega⟩)
                  have hn_70 : (fs14.set 11 (.int (nI (v22 + 1)))).length = 51 := by rw [List.length_set]; exact hn14
                  have hv_71 : (fs14.set 11 (.int (nI (v22 + 1))))[34]? = some (.ref v25) := by rw [List.getElem?_set_ne (by decide)]; exact hv25
                  have hv_72 : (fs14.set 11 (.int (nI (v22 + 1))))[35]? = some (.ref v48) := by rw [List.getElem?_set_ne (by decide)]; exact hv48
                  have hb_73 : (v22 + 1) ≤ 16 := by omega
                  obtain ⟨M_74, eM_74⟩ : ∃ M1 : Hp, M1 = va_up M_60 b11 (.inr (12, fs14.set 11 (.int (nI (v22 + 1))))) := ⟨_, rfl⟩
                  have hP : va_P D vwCl ([(za, .inr (13, [.int 0, .ref z1, .int (nI z2), .int (nI z3), .int z4, .int z5, .ref z6, .ref z7, .ref z8, .ref z9, .int (nI z10), .ref z11, .ref z12, .ref z13, .ref z14, .ref z15, .int (nI z16), .ref z17, .int z18, .ref z19]))] ++ va_pl L M_74) H_66 := by rw [eM_74]; exact hP
                  have hD : va_D A ([(za, .inr (13, [.int 0, .ref z1, .int (nI z2), .int (nI z3), .int z4, .int z5, .ref z6, .ref z7, .ref z8, .ref z9, .int (nI z10), .ref z11, .ref z12, .ref z13, .ref z14, .ref z15, .int (nI z16), .ref z17, .int z18, .ref z19]))] ++ va_pl L M_74) := by rw [eM_74]; exact hD
                  have hW : WOM cy K L M_74 := by rw [eM_74]; exact hW.up_12 hb_13 ⟨_, rfl, hn_70, hk_68⟩
                  have hF : fr K L [12, 14, 43, 77, 78] M M_74 := by rw [eM_74]; exact hF.up hb_13 (by decide)
                  have hG : fG K L [11] M M_74 := by rw [eM_74]; exact hG.up hM_63 (by decide)
                  have hM_75 : M_74 b11 = .inr (12, fs14.set 11 (.int (nI (v22 + 1)))) := by rw [eM_74]; exact va_up_self _ _ _
                  have hM_76 : M_74 v25 = .inl (cy 14, 16, .inl (f_64)) := by rw [eM_74, va_up_ne _ _ (hc25.neT hb_13 (by decide))]; exact hM_61
                  have hM_77 : M_74 v48 = .inl (cy 14, 16, .inl (f_57)) := by rw [eM_74, va_up_ne _ _ (hc48.neT hb_13 (by decide))]; exact hM_62
                  refine lv_aload_n hx hb dX13_rule_215 rfl (lv_at hl 4 rfl) ?_
                  refine lv_aload_n hx hb dX13_rule_216 rfl (lv_at hl 3 rfl) ?_
                  refine pg_getN (D := D) (ci := 12) (v := .int (nI (v22 + 1))) (C := RX12) (T := TX12) (N := 51) hx hb hg inG12 hown hK hP hb_13.1 hM_75 rfl 11 (by decide) (hN.use (Cond.fieldLinkNest RX13 142 RX12 "rules" "I" RX13) 20 rfl rfl) (fun _ h9 => h9) hs_69 dX13_rule_217 ?_
                  have hPc := hP.sub (ws' := [(za, .inr (13, [.int 0, .ref z1, .int (nI z2), .int (nI z3), .int z4, .int z5, .ref z6, .ref z7, .ref z8, .ref z9, .int (nI z10), .ref z11, .ref z12, .ref z13, .ref z14, .ref z15, .int (nI z16), .ref z17, .int z18, .ref z19]))]) [0] rfl
                  have hDc := hD.sub (ws' := [(za, .inr (13, [.int 0, .ref z1, .int (nI z2), .int (nI z3), .int z4, .int z5, .ref z6, .ref z7, .ref z8, .ref z9, .int (nI z10), .ref z11, .ref z12, .ref z13, .ref z14, .ref z15, .int (nI z16), .ref z17, .int z18, .ref z19]))]) [0] (by decide) rfl
                  have hKc := hK.sub (tys' := []) [] rfl
                  have hFc := va_free (wc := [(za, .inr (13, [.int 0, .ref z1, .int (nI z2), .int (nI z3), .int z4, .int z5, .ref z6, .ref z7, .ref z8, .ref z9, .int (nI z10), .ref z11, .ref z12, .ref z13, .ref z14, .ref z15, .int (nI z16), .ref z17, .int z18, .ref z19]))]) hD hS hA [0] rfl
                  refine va_calli (va_runV (As := [.int (nI (v22 + 1))]) (rest := []) ⟨hx, hb, hml, hown, hg⟩ (m_done l D H_66.size za 0 z1 (nI z2) (nI z3) z4 z5 z6 z7 z8 z9 (nI z10) z11 z12 z13 z14 z15 (nI z16) z17 z18 z19 (nI (v22 + 1))) (cwV 1 hg (gV wd_730 wd_731 wd_732 wd_717 wd_733) rfl rfl rfl (by decide +kernel) ⟨(Nat.le_trans (Nat.le_of_ble_eq_true rfl) hRf), (Nat.le_trans (Nat.le_of_ble_eq_true rfl) hRl)⟩) ⟨Pr.blind, va_recv hK hP (ci := 13) (q0 := 0) rfl rfl, fun U hU hW => ⟨rfl, Pr.at hPc hKc hDc hN hU hW⟩⟩ rfl rfl hl.1 rfl (lv_room (Nat.le_of_ble_eq_true rfl)) dX13_rule_220 ⟨(Nat.le_trans (Nat.le_of_ble_eq_true rfl) hRc), (Nat.le_trans (Nat.le_of_ble_eq_true rfl) hRs)⟩) hS (fun q _ h => hFc q h) hFc (fun r_79 M_80 t H_78 locs ht hvm hw hB hz1 hk1 hS => ?_)
                  have hp_81 := hw
                  obtain ⟨hP1, hK1, hD1⟩ := hB
                  rw [ht] at hP1
                  obtain ⟨hP, hD⟩ := va_joinQ (X := [(za, .inr (13, [.int 0, .ref z1, .int (nI z2), .int (nI z3), .int z4, .int z5, .ref z6, .ref z7, .ref z8, .ref z9, .int (nI z10), .ref z11, .ref z12, .ref z13, .ref z14, .ref z15, .int (nI z16), .ref z17, .int z18, .ref z19]))]) (cx := [(za, .inr (13, [.int 0, .ref z1, .int (nI z2), .int (nI z3), .int z4, .int z5, .ref z6, .ref z7, .ref z8, .ref z9, .int (nI z10), .ref z11, .ref z12, .ref z13, .ref z14, .ref z15, .int (nI z16), .ref z17, .int z18, .ref z19]))]) (wr := []) (w1 := [(za, .inr (13, [.int 0, .ref z1, .int (nI z2), .int (nI z3), .int 0, .int (-1), .ref z6, .ref z7, .ref z8, .ref z9, .int (nI z10), .ref z11, .ref z12, .ref z13, .ref z14, .ref z15, .int (nI z16), .ref z17, .int z18, .ref z19]))]) (pl := va_pl L M_74) hP hD [0] [] rfl rfl (by decide) (by decide) hk1 hFc hP1 hD1
                  have hP : va_P D vwCl ([(za, .inr (13, [.int 0, .ref z1, .int (nI z2), .int (nI z3), .int 0, .int (-1), .ref z6, .ref z7, .ref z8, .ref z9, .int (nI z10), .ref z11, .ref z12, .ref z13, .ref z14, .ref z15, .int (nI z16), .ref z17, .int z18, .ref z19]))] ++ va_pl L M_74) H_78 := hP
                  have hD : va_D A ([(za, .inr (13, [.int 0, .ref z1, .int (nI z2), .int (nI z3), .int 0, .int (-1), .ref z6, .ref z7, .ref z8, .ref z9, .int (nI z10), .ref z11, .ref z12, .ref z13, .ref z14, .ref z15, .int (nI z16), .ref z17, .int z18, .ref z19]))] ++ va_pl L M_74) := hD
                  have hq := Eq.symm hp_81
                  subst hq
                  rw [hQ]
                  exact W.iret (v := (nI (v22 + 1))) hx hb hr (fun t ht hW9 => ⟨⟨(nI (v22 + 1)), M_74, rfl, ⟨hW, hF, hG, trivial⟩, ⟨0, (-1), by rw [ht]; exact hP, hD⟩⟩, hS.F ht⟩) hS.2.2 dX13_rule_223
                · have hz := rfl (a := 0)
                  have n_82 : ¬ (24 ≤ v6w41) := fun q => c_46 ((iLE (a := 24) (b := v6w41) (by omega) (by omega)).mpr q)
                  refine lv_aload_n hx hb dX13_rule_115 rfl (lv_at hl 3 rfl) ?_
                  obtain ⟨v83, hv83, hc83⟩ : ∃ v : Nat, fs14[36]? = some (.ref v : Value) ∧ isk K L v 78 384 := hl14 36 (by decide)
                  refine pg_getN (D := D) (ci := 12) (v := .ref v83) (C := RX12) (T := TX12) (N := 51) hx hb hg inG12 hown hK hP hb_13.1 hM_45 rfl 36 (by decide) (hN.use (Cond.fieldLinkNest RX13 148 RX12 "term" "[I" RX13) 45 rfl rfl) (fun _ h9 => h9) hv83 dX13_rule_116 ?_
                  refine lv_iload hx hb dX13_rule_119 (lv_at hl 1 rfl) ?_
                  refine lv_aload_n hx hb dX13_rule_121 rfl (lv_at hl 3 rfl) ?_
                  refine pg_getN (D := D) (ci := 12) (v := .int (nI v22)) (C := RX12) (T := TX12) (N := 51) hx hb hg inG12 hown hK hP hb_13.1 hM_45 rfl 11 (by decide) (hN.use (Cond.fieldLinkNest RX13 142 RX12 "rules" "I" RX13) 20 rfl rfl) (fun _ h9 => h9) hv22 dX13_rule_122 ?_
                  refine lv_imul hx hb dX13_rule_125 ?_
                  refine lv_topi (fun f_84 ef_84 => ?_)
                  obtain rfl : f_84 = (nI (24 * v22)) := ef_84.trans (nI_mul 24 v22)
                  refine lv_iload hx hb dX13_rule_126 (lv_at hl 0 rfl) ?_
                  refine lv_iadd hx hb dX13_rule_128 ?_
                  refine lv_topi (fun f_85 ef_85 => ?_)
                  obtain rfl : f_85 = (nI ((24 * v22) + v6w41)) := ef_85.trans (nI_add (24 * v22) v6w41)
                  refine lv_aload_n hx hb dX13_rule_129 rfl (lv_at hl 3 rfl) ?_
                  refine pg_getN (D := D) (ci := 12) (v := .int (nI v22)) (C := RX12) (T := TX12) (N := 51) hx hb hg inG12 hown hK hP hb_13.1 hM_45 rfl 11 (by decide) (hN.use (Cond.fieldLinkNest RX13 142 RX12 "rules" "I" RX13) 20 rfl rfl) (fun _ h9 => h9) hv22 dX13_rule_130 ?_
                  refine lv_if_ne (tgt := 140) hx hb dX13_rule_133 (by decide) (fun c_86 => ?_) (fun c_86 => absurd c_86 c_23)
                  refine lv_aload_n hx hb dX13_rule_140 rfl (lv_at hl 3 rfl) ?_
                  refine pg_getN (D := D) (ci := 12) (v := .ref v83) (C := RX12) (T := TX12) (N := 51) hx hb hg inG12 hown hK hP hb_13.1 hM_45 rfl 36 (by decide) (hN.use (Cond.fieldLinkNest RX13 148 RX12 "term" "[I" RX13) 45 rfl rfl) (fun _ h9 => h9) hv83 dX13_rule_141 ?_
                  refine lv_iload hx hb dX13_rule_144 (lv_at hl 1 rfl) ?_
                  refine lv_aload_n hx hb dX13_rule_146 rfl (lv_at hl 3 rfl) ?_
                  refine pg_getN (D := D) (ci := 12) (v := .int (nI v22)) (C := RX12) (T := TX12) (N := 51) hx hb hg inG12 hown hK hP hb_13.1 hM_45 rfl 11 (by decide) (hN.use (Cond.fieldLinkNest RX13 142 RX12 "rules" "I" RX13) 20 rfl rfl) (fun _ h9 => h9) hv22 dX13_rule_147 ?_
                  refine lv_iconst (v := 1) hx hb dX13_rule_150 (by decide) ?_
                  refine lv_isub hx hb dX13_rule_151 ?_
                  refine lv_topi (fun f_87 ef_87 => ?_)
                  obtain rfl : f_87 = (nI (v22 - 1)) := ef_87.trans (nI_prd (by omega))
                  refine lv_imul hx hb dX13_rule_152 ?_
                  refine lv_topi (fun f_88 ef_88 => ?_)
                  obtain rfl : f_88 = (nI (24 * (v22 - 1))) := ef_88.trans (nI_mul 24 (v22 - 1))
                  refine lv_iload hx hb dX13_rule_153 (lv_at hl 0 rfl) ?_
                  refine lv_iadd hx hb dX13_rule_155 ?_
                  refine lv_topi (fun f_89 ef_89 => ?_)
                  obtain rfl : f_89 = (nI ((24 * (v22 - 1)) + v6w41)) := ef_89.trans (nI_add (24 * (v22 - 1)) v6w41)
                  obtain ⟨f90, hM90⟩ := hW.open_78 hc83
                  refine pg_iald hx hb hK hP hc83.1 0 hM90 rfl (inbN ((24 * (v22 - 1)) + v6w41) 384 (by omega) (by omega)) dX13_rule_156 ?_
                  refine lv_topi (fun f_91 ef_91 => ?_)
                  refine pg_iast hx hb hK hP hD hS hc83.1 0 hM90 rfl (inbN ((24 * v22) + v6w41) 384 (by omega) (by omega)) dX13_rule_157 (fun H_92 locs hP hD hS => ?_)
                  obtain ⟨M_93, eM_93⟩ : ∃ M1 : Hp, M1 = va_up M_43 v83 (.inl (cy 14, 384, .inl (upd f90 ((nI ((24 * v22) + v6w41)) : Int32).toNatClampNeg f_91))) := ⟨_, rfl⟩
                  have hP : va_P D vwCl ([(za, .inr (13, [.int 0, .ref z1, .int (nI z2), .int (nI z3), .int z4, .int z5, .ref z6, .ref z7, .ref z8, .ref z9, .int (nI z10), .ref z11, .ref z12, .ref z13, .ref z14, .ref z15, .int (nI z16), .ref z17, .int z18, .ref z19]))] ++ va_pl L M_93) H_92 := by rw [eM_93]; exact hP
                  have hD : va_D A ([(za, .inr (13, [.int 0, .ref z1, .int (nI z2), .int (nI z3), .int z4, .int z5, .ref z6, .ref z7, .ref z8, .ref z9, .int (nI z10), .ref z11, .ref z12, .ref z13, .ref z14, .ref z15, .int (nI z16), .ref z17, .int z18, .ref z19]))] ++ va_pl L M_93) := by rw [eM_93]; exact hD
                  have hW : WOM cy K L M_93 := by rw [eM_93]; exact hW.up_78 hc83 ⟨_, rfl⟩
                  have hF : fr K L [12, 14, 43, 77, 78] M M_93 := by rw [eM_93]; exact hF.up hc83 (by decide)
                  have hG : fG K L [11] M M_93 := by rw [eM_93]; exact hG.arr hc83 (by decide)
                  have hM_94 : M_93 v83 = .inl (cy 14, 384, .inl (upd f90 ((nI ((24 * v22) + v6w41)) : Int32).toNatClampNeg f_91)) := by rw [eM_93]; exact va_up_self _ _ _
                  have hM_95 : M_93 b11 = .inr (12, fs14) := by rw [eM_93, va_up_ne _ _ (hb_13.neT hc83 (by decide))]; exact hM_45
                  obtain ⟨f_96, ef_96⟩ : ∃ f : Nat → Int32, f = upd f90 ((nI ((24 * v22) + v6w41)) : Int32).toNatClampNeg f_91 := ⟨_, rfl⟩
                  rw [← ef_96] at hM_94
                  clear ef_96
                  refine lv_iinc (v := (nI (v6w41 + 1))) (lv' := [(6, .int (nI (v6w41 + 1))), (5, .int 24), (4, .int 1), (3, .ref b11), (0, .ref za), (1, .int k1), (2, .int k2)]) hx hb dX13_rule_158 hl (k := 0) rfl (nI_1 v6w41) (by decide) rfl (fun ls hl => ?_)
                  refine lv_goto (tgt := 108) hx hb dX13_rule_161 (by decide) ?_
                  exact ih_39 (v6w41 + 1) M_93 H_92 _ _ (by omega) hM_95 (by omega) hW hF hG hP hD hS (lv_sub hl [0, 1, 2, 3, 4, 5, 6] rfl)
            exact key_38 (24 - 0 + 1) 0 M H_15 _ _ (by omega) hM14 (by omega) hW hF hG hP hD hS (lv_sub hl [0, 1, 2, 3, 4, 5, 6] rfl)
          · have hz := rfl (a := 0)
            have n_97 : v22 = 16 := (iEQ (a := v22) (b := 16) (by omega) (by omega)).mp c_36
            refine lv_aload_n hx hb dX13_rule_94 rfl (lv_at hl 2 rfl) ?_
            refine lv_bipush (v := 9) hx hb dX13_rule_95 (by decide) ?_
            have hPc := hP.sub (ws' := [(za, .inr (13, [.int 0, .ref z1, .int (nI z2), .int (nI z3), .int z4, .int z5, .ref z6, .ref z7, .ref z8, .ref z9, .int (nI z10), .ref z11, .ref z12, .ref z13, .ref z14, .ref z15, .int (nI z16), .ref z17, .int z18, .ref z19]))]) [0] rfl
            have hDc := hD.sub (ws' := [(za, .inr (13, [.int 0, .ref z1, .int (nI z2), .int (nI z3), .int z4, .int z5, .ref z6, .ref z7, .ref z8, .ref z9, .int (nI z10), .ref z11, .ref z12, .ref z13, .ref z14, .ref z15, .int (nI z16), .ref z17, .int z18, .ref z19]))]) [0] (by decide) rfl
            have hKc := hK.sub (tys' := []) [] rfl
            have hFc := va_free (wc := [(za, .inr (13, [.int 0, .ref z1, .int (nI z2), .int (nI z3), .int z4, .int z5, .ref z6, .ref z7, .ref z8, .ref z9, .int (nI z10), .ref z11, .ref z12, .ref z13, .ref z14, .ref z15, .int (nI z16), .ref z17, .int z18, .ref z19]))]) hD hS hA [0] rfl
            refine va_calli (va_runV (As := [.int 9]) (rest := []) ⟨hx, hb, hml, hown, hg⟩ (m_refused l D H_15.size za 0 z1 (nI z2) (nI z3) z4 z5 z6 z7 z8 z9 (nI z10) z11 z12 z13 z14 z15 (nI z16) z17 z18 z19 9) (cwV 1 hg (gV wd_725 wd_726 wd_727 wd_717 wd_728) rfl rfl rfl (by decide +kernel) ⟨(Nat.le_trans (Nat.le_of_ble_eq_true rfl) hRf), (Nat.le_trans (Nat.le_of_ble_eq_true rfl) hRl)⟩) ⟨Pr.blind, va_recv hK hP (ci := 13) (q0 := 0) rfl rfl, fun U hU hW => ⟨rfl, Pr.at hPc hKc hDc hN hU hW⟩⟩ rfl rfl hl.1 rfl (lv_room (Nat.le_of_ble_eq_true rfl)) dX13_rule_97 ⟨(Nat.le_trans (Nat.le_of_ble_eq_true rfl) hRc), (Nat.le_trans (Nat.le_of_ble_eq_true rfl) hRs)⟩) hS (fun q _ h => hFc q h) hFc (fun r_99 M_100 t H_98 locs ht hvm hw hB hz1 hk1 hS => ?_)
            have hp_101 := hw
            obtain ⟨hP1, hK1, hD1⟩ := hB
            rw [ht] at hP1
            obtain ⟨hP, hD⟩ := va_joinQ (X := [(za, .inr (13, [.int 0, .ref z1, .int (nI z2), .int (nI z3), .int z4, .int z5, .ref z6, .ref z7, .ref z8, .ref z9, .int (nI z10), .ref z11, .ref z12, .ref z13, .ref z14, .ref z15, .int (nI z16), .ref z17, .int z18, .ref z19]))]) (cx := [(za, .inr (13, [.int 0, .ref z1, .int (nI z2), .int (nI z3), .int z4, .int z5, .ref z6, .ref z7, .ref z8, .ref z9, .int (nI z10), .ref z11, .ref z12, .ref z13, .ref z14, .ref z15, .int (nI z16), .ref z17, .int z18, .ref z19]))]) (wr := []) (w1 := [(za, .inr (13, [.int 0, .ref z1, .int (nI z2), .int (nI z3), .int 9, .int (-1), .ref z6, .ref z7, .ref z8, .ref z9, .int (nI z10), .ref z11, .ref z12, .ref z13, .ref z14, .ref z15, .int (nI z16), .ref z17, .int z18, .ref z19]))]) (pl := va_pl L M) hP hD [0] [] rfl rfl (by decide) (by decide) hk1 hFc hP1 hD1
            have hP : va_P D vwCl ([(za, .inr (13, [.int 0, .ref z1, .int (nI z2), .int (nI z3), .int 9, .int (-1), .ref z6, .ref z7, .ref z8, .ref z9, .int (nI z10), .ref z11, .ref z12, .ref z13, .ref z14, .ref z15, .int (nI z16), .ref z17, .int z18, .ref z19]))] ++ va_pl L M) H_98 := hP
            have hD : va_D A ([(za, .inr (13, [.int 0, .ref z1, .int (nI z2), .int (nI z3), .int 9, .int (-1), .ref z6, .ref z7, .ref z8, .ref z9, .int (nI z10), .ref z11, .ref z12, .ref z13, .ref z14, .ref z15, .int (nI z16), .ref z17, .int z18, .ref z19]))] ++ va_pl L M) := hD
            have hq := Eq.symm hp_101
            subst hq
            rw [hQ]
            exact W.iret (v := (-1)) hx hb hr (fun t ht hW9 => ⟨⟨(-1), M, rfl, ⟨hW, hF, hG, trivial⟩, ⟨9, (-1), by rw [ht]; exact hP, hD⟩⟩, hS.F ht⟩) hS.2.2 dX13_rule_100
      · have hz := rfl (a := 0)
        have n_102 : v22 = 0 := (iEQ (a := v22) (b := 0) (by omega) (by omega)).mp c_23
        refine lv_iload_n hx hb dX13_rule_41 rfl (lv_at hl 3 rfl) ?_
        refine lv_aload_n hx hb dX13_rule_42 rfl (lv_at hl 0 rfl) ?_
        obtain ⟨v103, hv103, hc103⟩ : ∃ v : Nat, fs14[0]? = some (.int (nI v) : Value) ∧ v ≤ 999 := hl14 0 (by decide)
        refine pg_getN (D := D) (ci := 12) (v := .int (nI v103)) (C := RX12) (T := TX12) (N := 51) hx hb hg inG12 hown hK hP hb_13.1 hM14 rfl 0 (by decide) (hN.use (Cond.fieldLinkNest RX13 77 RX12 "first" "I" RX13) 9 rfl rfl) (fun _ h9 => h9) hv103 dX13_rule_43 ?_
        refine lv_icmp_ne (tgt := 71) hx hb dX13_rule_46 (by decide) (fun c_104 => ?_) (fun c_104 => ?_)
        · have hz := rfl (a := 0)
          refine lv_iconst (v := 0) hx hb dX13_rule_71 (by decide) ?_
          refine lv_istore (lv' := [(4, .int 0), (3, .ref b11), (0, .ref za), (1, .int k1), (2, .int k2)]) hx hb dX13_rule_72 hl (by decide) rfl (fun ls hl => ?_)
          refine lv_iload hx hb dX13_rule_74 (lv_at hl 0 rfl) ?_
          refine lv_if_ne (tgt := 85) hx hb dX13_rule_76 (by decide) (fun c_105 => absurd c_105 (by decide)) (fun _ => ?_)
          refine lv_aload_n hx hb dX13_rule_79 rfl (lv_at hl 2 rfl) ?_
          refine lv_iconst (v := 3) hx hb dX13_rule_80 (by decide) ?_
          have hPc := hP.sub (ws' := [(za, .inr (13, [.int 0, .ref z1, .int (nI z2), .int (nI z3), .int z4, .int z5, .ref z6, .ref z7, .ref z8, .ref z9, .int (nI z10), .ref z11, .ref z12, .ref z13, .ref z14, .ref z15, .int (nI z16), .ref z17, .int z18, .ref z19]))]) [0] rfl
          have hDc := hD.sub (ws' := [(za, .inr (13, [.int 0, .ref z1, .int (nI z2), .int (nI z3), .int z4, .int z5, .ref z6, .ref z7, .ref z8, .ref z9, .int (nI z10), .ref z11, .ref z12, .ref z13, .ref z14, .ref z15, .int (nI z16), .ref z17, .int z18, .ref z19]))]) [0] (by decide) rfl
          have hKc := hK.sub (tys' := []) [] rfl
          have hFc := va_free (wc := [(za, .inr (13, [.int 0, .ref z1, .int (nI z2), .int (nI z3), .int z4, .int z5, .ref z6, .ref z7, .ref z8, .ref z9, .int (nI z10), .ref z11, .ref z12, .ref z13, .ref z14, .ref z15, .int (nI z16), .ref z17, .int z18, .ref z19]))]) hD hS hA [0] rfl
          refine va_calli (va_runV (As := [.int 3]) (rest := []) ⟨hx, hb, hml, hown, hg⟩ (m_refused l D H_15.size za 0 z1 (nI z2) (nI z3) z4 z5 z6 z7 z8 z9 (nI z10) z11 z12 z13 z14 z15 (nI z16) z17 z18 z19 3) (cwV 1 hg (gV wd_725 wd_726 wd_727 wd_717 wd_728) rfl rfl rfl (by decide +kernel) ⟨(Nat.le_trans (Nat.le_of_ble_eq_true rfl) hRf), (Nat.le_trans (Nat.le_of_ble_eq_true rfl) hRl)⟩) ⟨Pr.blind, va_recv hK hP (ci := 13) (q0 := 0) rfl rfl, fun U hU hW => ⟨rfl, Pr.at hPc hKc hDc hN hU hW⟩⟩ rfl rfl hl.1 rfl (lv_room (Nat.le_of_ble_eq_true rfl)) dX13_rule_81 ⟨(Nat.le_trans (Nat.le_of_ble_eq_true rfl) hRc), (Nat.le_trans (Nat.le_of_ble_eq_true rfl) hRs)⟩) hS (fun q _ h => hFc q h) hFc (fun r_107 M_108 t H_106 locs ht hvm hw hB hz1 hk1 hS => ?_)
          have hp_109 := hw
          obtain ⟨hP1, hK1, hD1⟩ := hB
          rw [ht] at hP1
          obtain ⟨hP, hD⟩ := va_joinQ (X := [(za, .inr (13, [.int 0, .ref z1, .int (nI z2), .int (nI z3), .int z4, .int z5, .ref z6, .ref z7, .ref z8, .ref z9, .int (nI z10), .ref z11, .ref z12, .ref z13, .ref z14, .ref z15, .int (nI z16), .ref z17, .int z18, .ref z19]))]) (cx := [(za, .inr (13, [.int 0, .ref z1, .int (nI z2), .int (nI z3), .int z4, .int z5, .ref z6, .ref z7, .ref z8, .ref z9, .int (nI z10), .ref z11, .ref z12, .ref z13, .ref z14, .ref z15, .int (nI z16), .ref z17, .int z18, .ref z19]))]) (wr := []) (w1 := [(za, .inr (13, [.int 0, .ref z1, .int (nI z2), .int (nI z3), .int 3, .int (-1), .ref z6, .ref z7, .ref z8, .ref z9, .int (nI z10), .ref z11, .ref z12, .ref z13, .ref z14, .ref z15, .int (nI z16), .ref z17, .int z18, .ref z19]))]) (pl := va_pl L M) hP hD [0] [] rfl rfl (by decide) (by decide) hk1 hFc hP1 hD1
          have hP : va_P D vwCl ([(za, .inr (13, [.int 0, .ref z1, .int (nI z2), .int (nI z3), .int 3, .int (-1), .ref z6, .ref z7, .ref z8, .ref z9, .int (nI z10), .ref z11, .ref z12, .ref z13, .ref z14, .ref z15, .int (nI z16), .ref z17, .int z18, .ref z19]))] ++ va_pl L M) H_106 := hP
          have hD : va_D A ([(za, .inr (13, [.int 0, .ref z1, .int (nI z2), .int (nI z3), .int 3, .int (-1), .ref z6, .ref z7, .ref z8, .ref z9, .int (nI z10), .ref z11, .ref z12, .ref z13, .ref z14, .ref z15, .int (nI z16), .ref z17, .int z18, .ref z19]))] ++ va_pl L M) := hD
          have hq := Eq.symm hp_109
          subst hq
          rw [hQ]
          exact W.iret (v := (-1)) hx hb hr (fun t ht hW9 => ⟨⟨(-1), M, rfl, ⟨hW, hF, hG, trivial⟩, ⟨3, (-1), by rw [ht]; exact hP, hD⟩⟩, hS.F ht⟩) hS.2.2 dX13_rule_84
        · have hz := rfl (a := 0)
          refine lv_goto (tgt := 67) hx hb dX13_rule_49 (by decide) ?_
          refine lv_iconst (v := 1) hx hb dX13_rule_67 (by decide) ?_
          refine lv_goto (tgt := 72) hx hb dX13_rule_68 (by decide) ?_
          refine lv_istore (lv' := [(4, .int 1), (3, .ref b11), (0, .ref za), (1, .int k1), (2, .int k2)]) hx hb dX13_rule_72 hl (by decide) rfl (fun ls hl => ?_)
          refine lv_iload hx hb dX13_rule_74 (lv_at hl 0 rfl) ?_
          refine lv_if_ne (tgt := 85) hx hb dX13_rule_76 (by decide) (fun _ => ?_) (fun c_110 => absurd c_110 (by decide))
          refine lv_aload_n hx hb dX13_rule_85 rfl (lv_at hl 1 rfl) ?_
          refine pg_getN (D := D) (ci := 12) (v := .int (nI v22)) (C := RX12) (T := TX12) (N := 51) hx hb hg inG12 hown hK hP hb_13.1 hM14 rfl 11 (by decide) (hN.use (Cond.fieldLinkNest RX13 142 RX12 "rules" "I" RX13) 20 rfl rfl) (fun _ h9 => h9) hv22 dX13_rule_86 ?_
          refine lv_bipush (v := 16) hx hb dX13_rule_89 (by decide) ?_
          refine lv_icmp_ne (tgt := 101) hx hb dX13_rule_91 (by decide) (fun c_111 => ?_) (fun c_111 => absurd c_111 (by rw [c_23]; decide))
          refine lv_bipush (v := 24) hx hb dX13_rule_101 (by decide) ?_
          refine lv_istore (lv' := [(5, .int 24), (4, .int 1), (3, .ref b11), (0, .ref za), (1, .int k1), (2, .int k2)]) hx hb dX13_rule_103 hl (by decide) rfl (fun ls hl => ?_)
          refine lv_iconst (v := 0) hx hb dX13_rule_105 (by decide) ?_
          refine lv_istore (lv' := [(6, .int 0), (5, .int 24), (4, .int 1), (3, .ref b11), (0, .ref za), (1, .int k1), (2, .int k2)]) hx hb dX13_rule_106 hl (by decide) rfl (fun ls hl => ?_)
          have key_112 : ∀ (fu_114 : Nat) (v6w115 : Nat) (M_117 : Hp) (H_118 : Heap) (locs : List Loc) (ls : Array Slot), 24 - v6w115 < fu_114 → M_117 b11 = .inr (12, fs14) → v6w115 ≤ 24 → WOM cy K L M_117 → fr K L [12, 14, 43, 77, 78] M M_117 → fG K L [11] M M_117 → va_P D vwCl ([(za, .inr (13, [.int 0, .ref z1, .int (nI z2), .int (nI z3), .int z4, .int z5, .ref z6, .ref z7, .ref z8, .ref z9, .int (nI z10), .ref z11, .ref z12, .ref z13, .ref z14, .ref z15, .int (nI z16), .ref z17, .int z18, .ref z19]))] ++ va_pl L M_117) H_118 → va_D A ([(za, .inr (13, [.int 0, .ref z1, .int (nI z2), .int (nI z3), .int z4, .int z5, .ref z6, .ref z7, .ref z8, .ref z9, .int (nI z10), .ref z11, .ref z12, .ref z13, .ref z14, .ref z15, .int (nI z16), .ref z17, .int z18, .ref z19]))] ++ va_pl L M_117) → va_S A s.heap H_118 locs → lv_has ls 7 [(6, .int (nI v6w115)), (5, .int 24), (4, .int 1), (3, .ref b11), (0, .ref za), (1, .int k1), (2, .int k2)] → W p l e R s m ([.ref za, .int k1, .int k2] : List Value).toArray below meth c H_118 locs 0 0 Q (F0 m 108 ls []) := by
            intro fu_114
            induction fu_114 with
            | zero => intro v6w115 M_117 H_118 locs ls h; exact absurd h (Nat.not_lt_zero _)
            | succ fu_114 ih_113 =>
              intro v6w115 M_117 H_118 locs ls hfu hM_119 hx_116 hW hF hG hP hD hS hl
              refine lv_iload hx hb dX13_rule_108 (lv_at hl 0 rfl) ?_
              refine lv_iload hx hb dX13_rule_110 (lv_at hl 1 rfl) ?_
              refine lv_icmp_ge (tgt := 164) hx hb dX13_rule_112 (by decide) (fun c_120 => ?_) (fun c_120 => ?_)
              · have hz := rfl (a := 0)
                have n_121 : 24 ≤ v6w115 := (iLE (a := 24) (b := v6w115) (by omega) (by omega)).mp c_120
                refine lv_aload_n hx hb dX13_rule_164 rfl (lv_at hl 3 rfl) ?_
                obtain ⟨v122, hv122, hc122⟩ : ∃ v : Nat, fs14[35]? = some (.ref v : Value) ∧ isk K L v 77 16 := hl14 35 (by decide)
                refine pg_getN (D := D) (ci := 12) (v := .ref v122) (C := RX12) (T := TX12) (N := 51) hx hb hg inG12 hown hK hP hb_13.1 hM_119 rfl 35 (by decide) (hN.use (Cond.fieldLinkNest RX13 151 RX12 "thousandths" "[I" RX13) 44 rfl rfl) (fun _ h9 => h9) hv122 dX13_rule_165 ?_
                refine lv_aload_n hx hb dX13_rule_168 rfl (lv_at hl 3 rfl) ?_
                refine pg_getN (D := D) (ci := 12) (v := .int (nI v22)) (C := RX12) (T := TX12) (N := 51) hx hb hg inG12 hown hK hP hb_13.1 hM_119 rfl 11 (by decide) (hN.use (Cond.fieldLinkNest RX13 142 RX12 "rules" "I" RX13) 20 rfl rfl) (fun _ h9 => h9) hv22 dX13_rule_169 ?_
                refine lv_aload_n hx hb dX13_rule_172 rfl (lv_at hl 3 rfl) ?_
                refine pg_getN (D := D) (ci := 12) (v := .int (nI v22)) (C := RX12) (T := TX12) (N := 51) hx hb hg inG12 hown hK hP hb_13.1 hM_119 rfl 11 (by decide) (hN.use (Cond.fieldLinkNest RX13 142 RX12 "rules" "I" RX13) 20 rfl rfl) (fun _ h9 => h9) hv22 dX13_rule_173 ?_
                refine lv_if_ne (tgt := 183) hx hb dX13_rule_176 (by decide) (fun c_123 => absurd c_23 c_123) (fun c_123 => ?_)
                refine lv_iconst (v := 0) hx hb dX13_rule_179 (by decide) ?_
                refine lv_goto (tgt := 194) hx hb dX13_rule_180 (by decide) ?_
                obtain ⟨f124, hM124⟩ := hW.open_77 hc122
                refine pg_iast hx hb hK hP hD hS hc122.1 0 hM124 rfl (inbN v22 16 (by omega) (by omega)) dX13_rule_194 (fun H_125 locs hP hD hS => ?_)
                obtain ⟨M_126, eM_126⟩ : ∃ M1 : Hp, M1 = va_up M_117 v122 (.inl (cy 14, 16, .inl (upd f124 ((nI v22) : Int32).toNatClampNeg 0))) := ⟨_, rfl⟩
                have hP : va_P D vwCl ([(za, .inr (13, [.int 0, .ref z1, .int (nI z2), .int (nI z3), .int z4, .int z5, .ref z6, .ref z7, .ref z8, .ref z9, .int (nI z10), .ref z11, .ref z12, .ref z13, .ref z14, .ref z15, .int (nI z16), .ref z17, .int z18, .ref z19]))] ++ va_pl L M_126) H_125 := by rw [eM_126]; exact hP
                have hD : va_D A ([(za, .inr (13, [.int 0, .ref z1, .int (nI z2), .int (nI z3), .int z4, .int z5, .ref z6, .ref z7, .ref z8, .ref z9, .int (nI z10), .ref z11, .ref z12, .ref z13, .ref z14, .ref z15, .int (nI z16), .ref z17, .int z18, .ref z19]))] ++ va_pl L M_126) := by rw [eM_126]; exact hD
                have hW : WOM cy K L M_126 := by rw [eM_126]; exact hW.up_77 hc122 ⟨_, rfl⟩
                have hF : fr K L [12, 14, 43, 77, 78] M M_126 := by rw [eM_126]; exact hF.up hc122 (by decide)
                have hG : fG K L [11] M M_126 := by rw [eM_126]; exact hG.arr hc122 (by decide)
                have hM_127 : M_126 v122 = .inl (cy 14, 16, .inl (upd f124 ((nI v22) : Int32).toNatClampNeg 0)) := by rw [eM_126]; exact va_up_self _ _ _
                have hM_128 : M_126 b11 = .inr (12, fs14) := by rw [eM_126, va_up_ne _ _ (hb_13.neT hc122 (by decide))]; exact hM_119
                obtain ⟨f_129, ef_129⟩ : ∃ f : Nat → Int32, f = upd f124 ((nI v22) : Int32).toNatClampNeg 0 := ⟨_, rfl⟩
                rw [← ef_129] at hM_127
                clear ef_129
                refine lv_aload_n hx hb dX13_rule_195 rfl (lv_at hl 3 rfl) ?_
                obtain ⟨v130, hv130, hc130⟩ : ∃ v : Nat, fs14[34]? = some (.ref v : Value) ∧ isk K L v 43 16 := hl14 34 (by decide)
                refine pg_getN (D := D) (ci := 12) (v := .ref v130) (C := RX12) (T := TX12) (N := 51) hx hb hg inG12 hown hK hP hb_13.1 hM_128 rfl 34 (by decide) (hN.use (Cond.fieldLinkNest RX13 145 RX12 "ruleDay" "[I" RX13) 43 rfl rfl) (fun _ h9 => h9) hv130 dX13_rule_196 ?_
                refine lv_aload_n hx hb dX13_rule_199 rfl (lv_at hl 3 rfl) ?_
                refine pg_getN (D := D) (ci := 12) (v := .int (nI v22)) (C := RX12) (T := TX12) (N := 51) hx hb hg inG12 hown hK hP hb_13.1 hM_128 rfl 11 (by decide) (hN.use (Cond.fieldLinkNest RX13 142 RX12 "rules" "I" RX13) 20 rfl rfl) (fun _ h9 => h9) hv22 dX13_rule_200 ?_
                refine lv_iload_n hx hb dX13_rule_203 rfl (lv_at hl 6 rfl) ?_
                obtain ⟨f131, hM131⟩ := hW.open_43 hc130
                refine pg_iast hx hb hK hP hD hS hc130.1 0 hM131 rfl (inbN v22 16 (by omega) (by omega)) dX13_rule_204 (fun H_132 locs hP hD hS => ?_)
                obtain ⟨M_133, eM_133⟩ : ∃ M1 : Hp, M1 = va_up M_126 v130 (.inl (cy 14, 16, .inl (upd f131 ((nI v22) : Int32).toNatClampNeg k2))) := ⟨_, rfl⟩
                have hP : va_P D vwCl ([(za, .inr (13, [.int 0, .ref z1, .int (nI z2), .int (nI z3), .int z4, .int z5, .ref z6, .ref z7, .ref z8, .ref z9, .int (nI z10), .ref z11, .ref z12, .ref z13, .ref z14, .ref z15, .int (nI z16), .ref z17, .int z18, .ref z19]))] ++ va_pl L M_133) H_132 := by rw [eM_133]; exact hP
                have hD : va_D A ([(za, .inr (13, [.int 0, .ref z1, .int (nI z2), .int (nI z3), .int z4, .int z5, .ref z6, .ref z7, .ref z8, .ref z9, .int (nI z10), .ref z11, .ref z12, .ref z13, .ref z14, .ref z15, .int (nI z16), .ref z17, .int z18, .ref z19]))] ++ va_pl L M_133) := by rw [eM_133]; exact hD
                have hW : WOM cy K L M_133 := by rw [eM_133]; exact hW.up_43 hc130 ⟨_, rfl⟩
                have hF : fr K L [12, 14, 43, 77, 78] M M_133 := by rw [eM_133]; exact hF.up hc130 (by decide)
                have hG : fG K L [11] M M_133 := by rw [eM_133]; exact hG.arr hc130 (by decide)
                have hM_134 : M_133 v130 = .inl (cy 14, 16, .inl (upd f131 ((nI v22) : Int32).toNatClampNeg k2)) := by rw [eM_133]; exact va_up_self _ _ _
                have hM_135 : M_133 v122 = .inl (cy 14, 16, .inl (f_129)) := by rw [eM_133, va_up_ne _ _ (hc122.neT hc130 (by decide))]; exact hM_127
                have hM_136 : M_133 b11 = .inr (12, fs14) := by rw [eM_133, va_up_ne _ _ (hb_13.neT hc130 (by decide))]; exact hM_128
                obtain ⟨f_137, ef_137⟩ : ∃ f : Nat → Int32, f = upd f131 ((nI v22) : Int32).toNatClampNeg k2 := ⟨_, rfl⟩
                rw [← ef_137] at hM_134
                clear ef_137
                refine lv_aload_n hx hb dX13_rule_205 rfl (lv_at hl 3 rfl) ?_
                refine lv_dup hx hb dX13_rule_206 rfl ?_
                refine pg_getN (D := D) (ci := 12) (v := .int (nI v22)) (C := RX12) (T := TX12) (N := 51) hx hb hg inG12 hown hK hP hb_13.1 hM_136 rfl 11 (by decide) (hN.use (Cond.fieldLinkNest RX13 142 RX12 "rules" "I" RX13) 20 rfl rfl) (fun _ h9 => h9) hv22 dX13_rule_207 ?_
                refine lv_iconst (v := 1) hx hb dX13_rule_210 (by decide) ?_
                refine lv_iadd hx hb dX13_rule_211 ?_
                refine lv_topi (fun f_138 ef_138 => ?_)
                obtain rfl : f_138 = (nI (v22 + 1)) := ef_138.trans (nI_add v22 1)
                refine pg_putN (D := D) (ci := 12) (v := .int (nI (v22 + 1))) (ty := .int) (C := RX12) (T := TX12) (N := 51) hx hb hg inG12 tyX12 tyX12_ok nmX12 hown hK hP hD hS hb_13.1 hM_136 rfl 11 (by decide) (hN.use (Cond.fieldLinkNest RX13 142 RX12 "rules" "I" RX13) 20 rfl rfl) (fun _ h9 => h9) rfl (by decide +kernel) rfl rfl (by rw [hn14]; decide) dX13_rule_212 (fun H_139 locs hP hD hS => ?_)
                have hs_142 : (fs14.set 11 (.int (nI (v22 + 1))))[11]? = some (.int (nI (v22 + 1))) := List.getElem?_set_self (by rw [hn14]; decide)
                have hk_141 := fld12_set (k := 11) (w := .int (nI (v22 + 1))) hl14 (show fld12 K L 11 (fs14.set 11 (.int (nI (v22 + 1)))) from ⟨(v22 + 1), hs_142, by omega⟩)
                have hn_143 : (fs14.set 11 (.int (nI (v22 + 1)))).length = 51 := by rw [List.length_set]; exact hn14
                have hv_144 : (fs14.set 11 (.int (nI (v22 + 1))))[0]? = some (.int (nI v103)) := by rw [List.getElem?_set_ne (by decide)]; exact hv103
                have hv_145 : (fs14.set 11 (.int (nI (v22 + 1))))[35]? = some (.ref v122) := by rw [List.getElem?_set_ne (by decide)]; exact hv122
                have hv_146 : (fs14.set 11 (.int (nI (v22 + 1))))[34]? = some (.ref v130) := by rw [List.getElem?_set_ne (by decide)]; exact hv130
                have hb_147 : (v22 + 1) ≤ 16 := by omega
                obtain ⟨M_148, eM_148⟩ : ∃ M1 : Hp, M1 = va_up M_133 b11 (.inr (12, fs14.set 11 (.int (nI (v22 + 1))))) := ⟨_, rfl⟩
                have hP : va_P D vwCl ([(za, .inr (13, [.int 0, .ref z1, .int (nI z2), .int (nI z3), .int z4, .int z5, .ref z6, .ref z7, .ref z8, .ref z9, .int (nI z10), .ref z11, .ref z12, .ref z13, .ref z14, .ref z15, .int (nI z16), .ref z17, .int z18, .ref z19]))] ++ va_pl L M_148) H_139 := by rw [eM_148]; exact hP
                have hD : va_D A ([(za, .inr (13, [.int 0, .ref z1, .int (nI z2), .int (nI z3), .int z4, .int z5, .ref z6, .ref z7, .ref z8, .ref z9, .int (nI z10), .ref z11, .ref z12, .ref z13, .ref z14, .ref z15, .int (nI z16), .ref z17, .int z18, .ref z19]))] ++ va_pl L M_148) := by rw [eM_148]; exact hD
                have hW : WOM cy K L M_148 := by rw [eM_148]; exact hW.up_12 hb_13 ⟨_, rfl, hn_143, hk_141⟩
                have hF : fr K L [12, 14, 43, 77, 78] M M_148 := by rw [eM_148]; exact hF.up hb_13 (by decide)
                have hG : fG K L [11] M M_148 := by rw [eM_148]; exact hG.up hM_136 (by decide)
                have hM_149 : M_148 b11 = .inr (12, fs14.set 11 (.int (nI (v22 + 1)))) := by rw [eM_148]; exact va_up_self _ _ _
                have hM_150 : M_148 v130 = .inl (cy 14, 16, .inl (f_137)) := by rw [eM_148, va_up_ne _ _ (hc130.neT hb_13 (by decide))]; exact hM_134
                have hM_151 : M_148 v122 = .inl (cy 14, 16, .inl (f_129)) := by rw [eM_148, va_up_ne _ _ (hc122.neT hb_13 (by decide))]; exact hM_135
                refine lv_aload_n hx hb dX13_rule_215 rfl (lv_at hl 4 rfl) ?_
                refine lv_aload_n hx hb dX13_rule_216 rfl (lv_at hl 3 rfl) ?_
                refine pg_getN (D := D) (ci := 12) (v := .int (nI (v22 + 1))) (C := RX12) (T := TX12) (N := 51) hx hb hg inG12 hown hK hP hb_13.1 hM_149 rfl 11 (by decide) (hN.use (Cond.fieldLinkNest RX13 142 RX12 "rules" "I" RX13) 20 rfl rfl) (fun _ h9 => h9) hs_142 dX13_rule_217 ?_
                have hPc := hP.sub (ws' := [(za, .inr (13, [.int 0, .ref z1, .int (nI z2), .int (nI z3), .int z4, .int z5, .ref z6, .ref z7, .ref z8, .ref z9, .int (nI z10), .ref z11, .ref z12, .ref z13, .ref z14, .ref z15, .int (nI z16), .ref z17, .int z18, .ref z19]))]) [0] rfl
                have hDc := hD.sub (ws' := [(za, .inr (13, [.int 0, .ref z1, .int (nI z2), .int (nI z3), .int z4, .int z5, .ref z6, .ref z7, .ref z8, .ref z9, .int (nI z10), .ref z11, .ref z12, .ref z13, .ref z14, .ref z15, .int (nI z16), .ref z17, .int z18, .ref z19]))]) [0] (by decide) rfl
                have hKc := hK.sub (tys' := []) [] rfl
                have hFc := va_free (wc := [(za, .inr (13, [.int 0, .ref z1, .int (nI z2), .int (nI z3), .int z4, .int z5, .ref z6, .ref z7, .ref z8, .ref z9, .int (nI z10), .ref z11, .ref z12, .ref z13, .ref z14, .ref z15, .int (nI z16), .ref z17, .int z18, .ref z19]))]) hD hS hA [0] rfl
                refine va_calli (va_runV (As := [.int (nI (v22 + 1))]) (rest := []) ⟨hx, hb, hml, hown, hg⟩ (m_done l D H_139.size za 0 z1 (nI z2) (nI z3) z4 z5 z6 z7 z8 z9 (nI z10) z11 z12 z13 z14 z15 (nI z16) z17 z18 z19 (nI (v22 + 1))) (cwV 1 hg (gV wd_730 wd_731 wd_732 wd_717 wd_733) rfl rfl rfl (by decide +kernel) ⟨(Nat.le_trans (Nat.le_of_ble_eq_true rfl) hRf), (Nat.le_trans (Nat.le_of_ble_eq_true rfl) hRl)⟩) ⟨Pr.blind, va_recv hK hP (ci := 13) (q0 := 0) rfl rfl, fun U hU hW => ⟨rfl, Pr.at hPc hKc hDc hN hU hW⟩⟩ rfl rfl hl.1 rfl (lv_room (Nat.le_of_ble_eq_true rfl)) dX13_rule_220 ⟨(Nat.le_trans (Nat.le_of_ble_eq_true rfl) hRc), (Nat.le_trans (Nat.le_of_ble_eq_true rfl) hRs)⟩) hS (fun q _ h => hFc q h) hFc (fun r_153 M_154 t H_152 locs ht hvm hw hB hz1 hk1 hS => ?_)
                have hp_155 := hw
                obtain ⟨hP1, hK1, hD1⟩ := hB
                rw [ht] at hP1
                obtain ⟨hP, hD⟩ := va_joinQ (X := [(za, .inr (13, [.int 0, .ref z1, .int (nI z2), .int (nI z3), .int z4, .int z5, .ref z6, .ref z7, .ref z8, .ref z9, .int (nI z10), .ref z11, .ref z12, .ref z13, .ref z14, .ref z15, .int (nI z16), .ref z17, .int z18, .ref z19]))]) (cx := [(za, .inr (13, [.int 0, .ref z1, .int (nI z2), .int (nI z3), .int z4, .int z5, .ref z6, .ref z7, .ref z8, .ref z9, .int (nI z10), .ref z11, .ref z12, .ref z13, .ref z14, .ref z15, .int (nI z16), .ref z17, .int z18, .ref z19]))]) (wr := []) (w1 := [(za, .inr (13, [.int 0, .ref z1, .int (nI z2), .int (nI z3), .int 0, .int (-1), .ref z6, .ref z7, .ref z8, .ref z9, .int (nI z10), .ref z11, .ref z12, .ref z13, .ref z14, .ref z15, .int (nI z16), .ref z17, .int z18, .ref z19]))]) (pl := va_pl L M_148) hP hD [0] [] rfl rfl (by decide) (by decide) hk1 hFc hP1 hD1
                have hP : va_P D vwCl ([(za, .inr (13, [.int 0, .ref z1, .int (nI z2), .int (nI z3), .int 0, .int (-1), .ref z6, .ref z7, .ref z8, .ref z9, .int (nI z10), .ref z11, .ref z12, .ref z13, .ref z14, .ref z15, .int (nI z16), .ref z17, .int z18, .ref z19]))] ++ va_pl L M_148) H_152 := hP
                have hD : va_D A ([(za, .inr (13, [.int 0, .ref z1, .int (nI z2), .int (nI z3), .int 0, .int (-1), .ref z6, .ref z7, .ref z8, .ref z9, .int (nI z10), .ref z11, .ref z12, .ref z13, .ref z14, .ref z15, .int (nI z16), .ref z17, .int z18, .ref z19]))] ++ va_pl L M_148) := hD
                have hq := Eq.symm hp_155
                subst hq
                rw [hQ]
                exact W.iret (v := (nI (v22 + 1))) hx hb hr (fun t ht hW9 => ⟨⟨(nI (v22 + 1)), M_148, rfl, ⟨hW, hF, hG, trivial⟩, ⟨0, (-1), by rw [ht]; exact hP, hD⟩⟩, hS.F ht⟩) hS.2.2 dX13_rule_223
              · have hz := rfl (a := 0)
                have n_156 : ¬ (24 ≤ v6w115) := fun q => c_120 ((iLE (a := 24) (b := v6w115) (by omega) (by omega)).mpr q)
                refine lv_aload_n hx hb dX13_rule_115 rfl (lv_at hl 3 rfl) ?_
                obtain ⟨v157, hv157, hc157⟩ : ∃ v : Nat, fs14[36]? = some (.ref v : Value) ∧ isk K L v 78 384 := hl14 36 (by decide)
                refine pg_getN (D := D) (ci := 12) (v := .ref v157) (C := RX12) (T := TX12) (N := 51) hx hb hg inG12 hown hK hP hb_13.1 hM_119 rfl 36 (by decide) (hN.use (Cond.fieldLinkNest RX13 148 RX12 "term" "[I" RX13) 45 rfl rfl) (fun _ h9 => h9) hv157 dX13_rule_116 ?_
                refine lv_iload hx hb dX13_rule_119 (lv_at hl 1 rfl) ?_
                refine lv_aload_n hx hb dX13_rule_121 rfl (lv_at hl 3 rfl) ?_
                refine pg_getN (D := D) (ci := 12) (v := .int (nI v22)) (C := RX12) (T := TX12) (N := 51) hx hb hg inG12 hown hK hP hb_13.1 hM_119 rfl 11 (by decide) (hN.use (Cond.fieldLinkNest RX13 142 RX12 "rules" "I" RX13) 20 rfl rfl) (fun _ h9 => h9) hv22 dX13_rule_122 ?_
                refine lv_imul hx hb dX13_rule_125 ?_
                refine lv_topi (fun f_158 ef_158 => ?_)
                obtain rfl : f_158 = (nI (24 * v22)) := ef_158.trans (nI_mul 24 v22)
                refine lv_iload hx hb dX13_rule_126 (lv_at hl 0 rfl) ?_
                refine lv_iadd hx hb dX13_rule_128 ?_
                refine lv_topi (fun f_159 ef_159 => ?_)
                obtain rfl : f_159 = (nI ((24 * v22) + v6w115)) := ef_159.trans (nI_add (24 * v22) v6w115)
                refine lv_aload_n hx hb dX13_rule_129 rfl (lv_at hl 3 rfl) ?_
                refine pg_getN (D := D) (ci := 12) (v := .int (nI v22)) (C := RX12) (T := TX12) (N := 51) hx hb hg inG12 hown hK hP hb_13.1 hM_119 rfl 11 (by decide) (hN.use (Cond.fieldLinkNest RX13 142 RX12 "rules" "I" RX13) 20 rfl rfl) (fun _ h9 => h9) hv22 dX13_rule_130 ?_
                refine lv_if_ne (tgt := 140) hx hb dX13_rule_133 (by decide) (fun c_160 => absurd c_23 c_160) (fun c_160 => ?_)
                refine lv_iconst (v := 0) hx hb dX13_rule_136 (by decide) ?_
                refine lv_goto (tgt := 157) hx hb dX13_rule_137 (by decide) ?_
                obtain ⟨f161, hM161⟩ := hW.open_78 hc157
                refine pg_iast hx hb hK hP hD hS hc157.1 0 hM161 rfl (inbN ((24 * v22) + v6w115) 384 (by omega) (by omega)) dX13_rule_157 (fun H_162 locs hP hD hS => ?_)
                obtain ⟨M_163, eM_163⟩ : ∃ M1 : Hp, M1 = va_up M_117 v157 (.inl (cy 14, 384, .inl (upd f161 ((nI ((24 * v22) + v6w115)) : Int32).toNatClampNeg 0))) := ⟨_, rfl⟩
                have hP : va_P D vwCl ([(za, .inr (13, [.int 0, .ref z1, .int (nI z2), .int (nI z3), .int z4, .int z5, .ref z6, .ref z7, .ref z8, .ref z9, .int (nI z10), .ref z11, .ref z12, .ref z13, .ref z14, .ref z15, .int (nI z16), .ref z17, .int z18, .ref z19]))] ++ va_pl L M_163) H_162 := by rw [eM_163]; exact hP
                have hD : va_D A ([(za, .inr (13, [.int 0, .ref z1, .int (nI z2), .int (nI z3), .int z4, .int z5, .ref z6, .ref z7, .ref z8, .ref z9, .int (nI z10), .ref z11, .ref z12, .ref z13, .ref z14, .ref z15, .int (nI z16), .ref z17, .int z18, .ref z19]))] ++ va_pl L M_163) := by rw [eM_163]; exact hD
                have hW : WOM cy K L M_163 := by rw [eM_163]; exact hW.up_78 hc157 ⟨_, rfl⟩
                have hF : fr K L [12, 14, 43, 77, 78] M M_163 := by rw [eM_163]; exact hF.up hc157 (by decide)
                have hG : fG K L [11] M M_163 := by rw [eM_163]; exact hG.arr hc157 (by decide)
                have hM_164 : M_163 v157 = .inl (cy 14, 384, .inl (upd f161 ((nI ((24 * v22) + v6w115)) : Int32).toNatClampNeg 0)) := by rw [eM_163]; exact va_up_self _ _ _
                have hM_165 : M_163 b11 = .inr (12, fs14) := by rw [eM_163, va_up_ne _ _ (hb_13.neT hc157 (by decide))]; exact hM_119
                obtain ⟨f_166, ef_166⟩ : ∃ f : Nat → Int32, f = upd f161 ((nI ((24 * v22) + v6w115)) : Int32).toNatClampNeg 0 := ⟨_, rfl⟩
                rw [← ef_166] at hM_164
                clear ef_166
                refine lv_iinc (v := (nI (v6w115 + 1))) (lv' := [(6, .int (nI (v6w115 + 1))), (5, .int 24), (4, .int 1), (3, .ref b11), (0, .ref za), (1, .int k1), (2, .int k2)]) hx hb dX13_rule_158 hl (k := 0) rfl (nI_1 v6w115) (by decide) rfl (fun ls hl => ?_)
                refine lv_goto (tgt := 108) hx hb dX13_rule_161 (by decide) ?_
                exact ih_113 (v6w115 + 1) M_163 H_162 _ _ (by omega) hM_165 (by omega) hW hF hG hP hD hS (lv_sub hl [0, 1, 2, 3, 4, 5, 6] rfl)
          exact key_112 (24 - 0 + 1) 0 M H_15 _ _ (by omega) hM14 (by omega) hW hF hG hP hD hS (lv_sub hl [0, 1, 2, 3, 4, 5, 6] rfl)
    · have hz := rfl (a := 0)
      refine lv_if_eq (tgt := 71) hx hb dX13_rule_31 (by decide) (fun _ => ?_) (fun c_167 => absurd c_167 (by decide))
      refine lv_iconst (v := 0) hx hb dX13_rule_71 (by decide) ?_
      refine lv_istore (lv' := [(4, .int 0), (3, .ref b11), (0, .ref za), (1, .int k1), (2, .int k2)]) hx hb dX13_rule_72 hl (by decide) rfl (fun ls hl => ?_)
      refine lv_iload hx hb dX13_rule_74 (lv_at hl 0 rfl) ?_
      refine lv_if_ne (tgt := 85) hx hb dX13_rule_76 (by decide) (fun c_168 => absurd c_168 (by decide)) (fun _ => ?_)
      refine lv_aload_n hx hb dX13_rule_79 rfl (lv_at hl 2 rfl) ?_
      refine lv_iconst (v := 3) hx hb dX13_rule_80 (by decide) ?_
      have hPc := hP.sub (ws' := [(za, .inr (13, [.int 0, .ref z1, .int (nI z2), .int (nI z3), .int z4, .int z5, .ref z6, .ref z7, .ref z8, .ref z9, .int (nI z10), .ref z11, .ref z12, .ref z13, .ref z14, .ref z15, .int (nI z16), .ref z17, .int z18, .ref z19]))]) [0] rfl
      have hDc := hD.sub (ws' := [(za, .inr (13, [.int 0, .ref z1, .int (nI z2), .int (nI z3), .int z4, .int z5, .ref z6, .ref z7, .ref z8, .ref z9, .int (nI z10), .ref z11, .ref z12, .ref z13, .ref z14, .ref z15, .int (nI z16), .ref z17, .int z18, .ref z19]))]) [0] (by decide) rfl
      have hKc := hK.sub (tys' := []) [] rfl
      have hFc := va_free (wc := [(za, .inr (13, [.int 0, .ref z1, .int (nI z2), .int (nI z3), .int z4, .int z5, .ref z6, .ref z7, .ref z8, .ref z9, .int (nI z10), .ref z11, .ref z12, .ref z13, .ref z14, .ref z15, .int (nI z16), .ref z17, .int z18, .ref z19]))]) hD hS hA [0] rfl
      refine va_calli (va_runV (As := [.int 3]) (rest := []) ⟨hx, hb, hml, hown, hg⟩ (m_refused l D H_15.size za 0 z1 (nI z2) (nI z3) z4 z5 z6 z7 z8 z9 (nI z10) z11 z12 z13 z14 z15 (nI z16) z17 z18 z19 3) (cwV 1 hg (gV wd_725 wd_726 wd_727 wd_717 wd_728) rfl rfl rfl (by decide +kernel) ⟨(Nat.le_trans (Nat.le_of_ble_eq_true rfl) hRf), (Nat.le_trans (Nat.le_of_ble_eq_true rfl) hRl)⟩) ⟨Pr.blind, va_recv hK hP (ci := 13) (q0 := 0) rfl rfl, fun U hU hW => ⟨rfl, Pr.at hPc hKc hDc hN hU hW⟩⟩ rfl rfl hl.1 rfl (lv_room (Nat.le_of_ble_eq_true rfl)) dX13_rule_81 ⟨(Nat.le_trans (Nat.le_of_ble_eq_true rfl) hRc), (Nat.le_trans (Nat.le_of_ble_eq_true rfl) hRs)⟩) hS (fun q _ h => hFc q h) hFc (fun r_170 M_171 t H_169 locs ht hvm hw hB hz1 hk1 hS => ?_)
      have hp_172 := hw
      obtain ⟨hP1, hK1, hD1⟩ := hB
      rw [ht] at hP1
      obtain ⟨hP, hD⟩ := va_joinQ (X := [(za, .inr (13, [.int 0, .ref z1, .int (nI z2), .int (nI z3), .int z4, .int z5, .ref z6, .ref z7, .ref z8, .ref z9, .int (nI z10), .ref z11, .ref z12, .ref z13, .ref z14, .ref z15, .int (nI z16), .ref z17, .int z18, .ref z19]))]) (cx := [(za, .inr (13, [.int 0, .ref z1, .int (nI z2), .int (nI z3), .int z4, .int z5, .ref z6, .ref z7, .ref z8, .ref z9, .int (nI z10), .ref z11, .ref z12, .ref z13, .ref z14, .ref z15, .int (nI z16), .ref z17, .int z18, .ref z19]))]) (wr := []) (w1 := [(za, .inr (13, [.int 0, .ref z1, .int (nI z2), .int (nI z3), .int 3, .int (-1), .ref z6, .ref z7, .ref z8, .ref z9, .int (nI z10), .ref z11, .ref z12, .ref z13, .ref z14, .ref z15, .int (nI z16), .ref z17, .int z18, .ref z19]))]) (pl := va_pl L M) hP hD [0] [] rfl rfl (by decide) (by decide) hk1 hFc hP1 hD1
      have hP : va_P D vwCl ([(za, .inr (13, [.int 0, .ref z1, .int (nI z2), .int (nI z3), .int 3, .int (-1), .ref z6, .ref z7, .ref z8, .ref z9, .int (nI z10), .ref z11, .ref z12, .ref z13, .ref z14, .ref z15, .int (nI z16), .ref z17, .int z18, .ref z19]))] ++ va_pl L M) H_169 := hP
      have hD : va_D A ([(za, .inr (13, [.int 0, .ref z1, .int (nI z2), .int (nI z3), .int 3, .int (-1), .ref z6, .ref z7, .ref z8, .ref z9, .int (nI z10), .ref z11, .ref z12, .ref z13, .ref z14, .ref z15, .int (nI z16), .ref z17, .int z18, .ref z19]))] ++ va_pl L M) := hD
      have hq := Eq.symm hp_172
      subst hq
      rw [hQ]
      exact W.iret (v := (-1)) hx hb hr (fun t ht hW9 => ⟨⟨(-1), M, rfl, ⟨hW, hF, hG, trivial⟩, ⟨3, (-1), by rw [ht]; exact hP, hD⟩⟩, hS.F ht⟩) hS.2.2 dX13_rule_84
  · have hz := rfl (a := 0)
    refine lv_if_ne (tgt := 19) hx hb dX13_rule_10 (by decide) (fun c_173 => absurd c_173 (by decide)) (fun _ => ?_)
    refine lv_aload_n hx hb dX13_rule_13 rfl (lv_at hl 0 rfl) ?_
    refine lv_iconst (v := 1) hx hb dX13_rule_14 (by decide) ?_
    have hPc := hP.sub (ws' := [(za, .inr (13, [.int 0, .ref z1, .int (nI z2), .int (nI z3), .int z4, .int z5, .ref z6, .ref z7, .ref z8, .ref z9, .int (nI z10), .ref z11, .ref z12, .ref z13, .ref z14, .ref z15, .int (nI z16), .ref z17, .int z18, .ref z19]))]) [0] rfl
    have hDc := hD.sub (ws' := [(za, .inr (13, [.int 0, .ref z1, .int (nI z2), .int (nI z3), .int z4, .int z5, .ref z6, .ref z7, .ref z8, .ref z9, .int (nI z10), .ref z11, .ref z12, .ref z13, .ref z14, .ref z15, .int (nI z16), .ref z17, .int z18, .ref z19]))]) [0] (by decide) rfl
    have hKc := hK.sub (tys' := []) [] rfl
    have hFc := va_free (wc := [(za, .inr (13, [.int 0, .ref z1, .int (nI z2), .int (nI z3), .int z4, .int z5, .ref z6, .ref z7, .ref z8, .ref z9, .int (nI z10), .ref z11, .ref z12, .ref z13, .ref z14, .ref z15, .int (nI z16), .ref z17, .int z18, .ref z19]))]) hD hS hA [0] rfl
    refine va_calli (va_runV (As := [.int 1]) (rest := []) ⟨hx, hb, hml, hown, hg⟩ (m_refused l D H_2.size za 0 z1 (nI z2) (nI z3) z4 z5 z6 z7 z8 z9 (nI z10) z11 z12 z13 z14 z15 (nI z16) z17 z18 z19 1) (cwV 1 hg (gV wd_725 wd_726 wd_727 wd_717 wd_728) rfl rfl rfl (by decide +kernel) ⟨(Nat.le_trans (Nat.le_of_ble_eq_true rfl) hRf), (Nat.le_trans (Nat.le_of_ble_eq_true rfl) hRl)⟩) ⟨Pr.blind, va_recv hK hP (ci := 13) (q0 := 0) rfl rfl, fun U hU hW => ⟨rfl, Pr.at hPc hKc hDc hN hU hW⟩⟩ rfl rfl hl.1 rfl (lv_room (Nat.le_of_ble_eq_true rfl)) dX13_rule_15 ⟨(Nat.le_trans (Nat.le_of_ble_eq_true rfl) hRc), (Nat.le_trans (Nat.le_of_ble_eq_true rfl) hRs)⟩) hS (fun q _ h => hFc q h) hFc (fun r_175 M_176 t H_174 locs ht hvm hw hB hz1 hk1 hS => ?_)
    have hp_177 := hw
    obtain ⟨hP1, hK1, hD1⟩ := hB
    rw [ht] at hP1
    obtain ⟨hP, hD⟩ := va_joinQ (X := [(za, .inr (13, [.int 0, .ref z1, .int (nI z2), .int (nI z3), .int z4, .int z5, .ref z6, .ref z7, .ref z8, .ref z9, .int (nI z10), .ref z11, .ref z12, .ref z13, .ref z14, .ref z15, .int (nI z16), .ref z17, .int z18, .ref z19]))]) (cx := [(za, .inr (13, [.int 0, .ref z1, .int (nI z2), .int (nI z3), .int z4, .int z5, .ref z6, .ref z7, .ref z8, .ref z9, .int (nI z10), .ref z11, .ref z12, .ref z13, .ref z14, .ref z15, .int (nI z16), .ref z17, .int z18, .ref z19]))]) (wr := []) (w1 := [(za, .inr (13, [.int 0, .ref z1, .int (nI z2), .int (nI z3), .int 1, .int (-1), .ref z6, .ref z7, .ref z8, .ref z9, .int (nI z10), .ref z11, .ref z12, .ref z13, .ref z14, .ref z15, .int (nI z16), .ref z17, .int z18, .ref z19]))]) (pl := va_pl L M) hP hD [0] [] rfl rfl (by decide) (by decide) hk1 hFc hP1 hD1
    have hP : va_P D vwCl ([(za, .inr (13, [.int 0, .ref z1, .int (nI z2), .int (nI z3), .int 1, .int (-1), .ref z6, .ref z7, .ref z8, .ref z9, .int (nI z10), .ref z11, .ref z12, .ref z13, .ref z14, .ref z15, .int (nI z16), .ref z17, .int z18, .ref z19]))] ++ va_pl L M) H_174 := hP
    have hD : va_D A ([(za, .inr (13, [.int 0, .ref z1, .int (nI z2), .int (nI z3), .int 1, .int (-1), .ref z6, .ref z7, .ref z8, .ref z9, .int (nI z10), .ref z11, .ref z12, .ref z13, .ref z14, .ref z15, .int (nI z16), .ref z17, .int z18, .ref z19]))] ++ va_pl L M) := hD
    have hq := Eq.symm hp_177
    subst hq
    rw [hQ]
    exact W.iret (v := (-1)) hx hb hr (fun t ht hW9 => ⟨⟨(-1), M, rfl, ⟨hW, hF, hG, trivial⟩, ⟨1, (-1), by rw [ht]; exact hP, hD⟩⟩, hS.F ht⟩) hS.2.2 dX13_rule_18
set_option maxHeartbeats 4000000 in
set_option maxRecDepth 100000 in
theorem r_X13_settled (l : Launch) (D : va_G) (cy : Nat → ClassId) (K : Kp) (L : List Nat) (M : Hp) (sz : Nat) (k1 : Nat) (k2 : Int32) (k3 : Int32) (hW : WOM cy K L M) (ik1 : isk K L k1 12 0) : Met l yX13_settled (wsM yX13_settled cX13_settled 5 none) ({ frames := 0, cells := 0, slots := 0, locals := 0 }) (va_Pc [.ref k1, .int k2, .int k3] (PG D cy [] L M sz)) (va_Qv (fun (M9 : Hp) => WOM cy K L M9 ∧ fr K L [12, 14, 15, 32, 79, 80, 81] M M9 ∧ fG K L [8, 14] M M9 ∧ (True)) (fun M9 t => PQ D [] L M9 (va_A ([] ++ va_pl L M) sz) t) (va_A ([] ++ va_pl L M) sz)) 0 0 (va_A ([] ++ va_pl L M) sz) := by
  refine Met.ofW (cc := cX13_settled) (maxL := 5) (ret := none) (by decide) rfl ?_
  intro p e s m args below meth c s₁ B hml hv
  obtain ⟨rfl, hsz, hP, hK, hD0, hN⟩ := hv
  have hx := B.exec
  have hb := B.bytes
  have hr := B.returns
  have hts := atoms_spec (ws := (wsM yX13_settled cX13_settled 5 none)) B.pre
  have hg : ∀ w ∈ lw_good, w.before _ s = true := fun w h => hts w (List.mem_cons_of_mem _ h)
  have hown : s.vm.findClass RX13 = some m.cls := findClass_of_methodNamed B.named
  have hlocks := B.notSynchronized
  subst hsz
  have hD := hD0.self (sz := s.heap.size)
  generalize hAe : va_A ([] ++ va_pl L M) s.heap.size = A at hD ⊢
  have hA : ∀ q : Nat, s.heap.size ≤ q → A q := fun q h => by rw [← hAe]; exact Or.inr h
  have hS : va_S A s.heap s.heap [] := va_S.rf
  have hl := lv_entry ([.ref k1, .int k2, .int k3]) (n := 5) (Nat.le_of_ble_eq_true rfl)
  rw [lg_entry_eq]
  generalize (lg_sl ([.ref k1, .int k2, .int k3]) ++ List.replicate (5 - (lg_sl ([.ref k1, .int k2, .int k3])).length) Slot.unset).toArray = ls at hl ⊢
  refine W.nameQ (fun Q hQ => ?_)
  refine W.nameR (fun R hR => ?_)
  have hRf : 0 ≤ R.frames := by rw [hR]; exact Nat.le_of_ble_eq_true rfl
  have hRl : 0 ≤ R.locals := by rw [hR]; exact Nat.le_of_ble_eq_true rfl
  have hRc : 0 ≤ R.cells := by rw [hR]; exact Nat.le_of_ble_eq_true rfl
  have hRs : 0 ≤ R.slots := by rw [hR]; exact Nat.le_of_ble_eq_true rfl
  have hF : fr K L [12, 14, 15, 32, 79, 80, 81] M M := fr.rf
  have hG : fG K L [8, 14] M M := fG.rf
  have hl : lv_has ls 5 [(0, .ref k1), (1, .int k2), (2, .int k3)] := hl
  refine lv_iconst (v := 0) hx hb dX13_settled_0 (by decide) ?_
  refine lv_istore_n (lv' := [(3, .int 0), (0, .ref k1), (1, .int k2), (2, .int k3)]) hx hb dX13_settled_1 rfl hl (by decide) rfl (fun ls hl => ?_)
  refine lv_iconst (v := 0) hx hb dX13_settled_2 (by decide) ?_
  refine lv_istore (lv' := [(4, .int 0), (3, .int 0), (0, .ref k1), (1, .int k2), (2, .int k3)]) hx hb dX13_settled_3 hl (by decide) rfl (fun ls hl => ?_)
  have key_1 : ∀ (fu_3 : Nat) (v3w4 : Nat) (v4w4 : Nat) (M_7 : Hp) (H_8 : Heap) (locs : List Loc) (ls : Array Slot), 120 - v4w4 < fu_3 → v3w4 ≤ v4w4 → v4w4 ≤ 120 → WOM cy K L M_7 → fr K L [12, 14, 15, 32, 79, 80, 81] M M_7 → fG K L [8, 14] M M_7 → va_P D vwCl ([] ++ va_pl L M_7) H_8 → va_D A ([] ++ va_pl L M_7) → va_S A s.heap H_8 locs → lv_has ls 5 [(4, .int (nI v4w4)), (3, .int (nI v3w4)), (0, .ref k1), (1, .int k2), (2, .int k3)] → W p l e R s m ([.ref k1, .int k2, .int k3] : List Value).toArray below meth c H_8 locs 0 0 Q (F0 m 5 ls []) := by
    intro fu_3
    induction fu_3 with
    | zero => intro v3w4 v4w4 M_7 H_8 locs ls h; exact absurd h (Nat.not_lt_zero _)
    | succ fu_3 ih_2 =>
      intro v3w4 v4w4 M_7 H_8 locs ls hfu hx_5 hx_6 hW hF hG hP hD hS hl
      refine lv_iload hx hb dX13_settled_5 (lv_at hl 0 rfl) ?_
      refine lv_aload_n hx hb dX13_settled_7 rfl (lv_at hl 2 rfl) ?_
      obtain ⟨fs9, hM9, hn9, hl9⟩ := hW.open_12 ik1
      obtain ⟨v10, hv10, hc10⟩ : ∃ v : Nat, fs9[14]? = some (.int (nI v) : Value) ∧ v ≤ 120 := hl9 14 (by decide)
      refine pg_getN (D := D) (ci := 12) (v := .int (nI v10)) (C := RX12) (T := TX12) (N := 51) hx hb hg inG12 hown hK hP ik1.1 hM9 rfl 14 (by decide) (hN.use (Cond.fieldLinkNest RX13 193 RX12 "moves" "I" RX13) 23 rfl rfl) (fun _ h9 => h9) hv10 dX13_settled_8 ?_
      refine lv_icmp_ge (tgt := 110) hx hb dX13_settled_11 (by decide) (fun c_11 => ?_) (fun c_11 => ?_)
      · have hz := rfl (a := 0)
        have n_12 : v10 ≤ v4w4 := (iLE (a := v10) (b := v4w4) (by omega) (by omega)).mp c_11
        refine lv_aload_n hx hb dX13_settled_110 rfl (lv_at hl 2 rfl) ?_
        refine lv_iload_n hx hb dX13_settled_111 rfl (lv_at hl 1 rfl) ?_
        refine pg_putN (D := D) (ci := 12) (v := .int (nI v3w4)) (ty := .int) (C := RX12) (T := TX12) (N := 51) hx hb hg inG12 tyX12 tyX12_ok nmX12 hown hK hP hD hS ik1.1 hM9 rfl 14 (by decide) (hN.use (Cond.fieldLinkNest RX13 193 RX12 "moves" "I" RX13) 23 rfl rfl) (fun _ h9 => h9) rfl (by decide +kernel) rfl rfl (by rw [hn9]; decide) dX13_settled_112 (fun H_13 locs hP hD hS => ?_)
        have hs_16 : (fs9.set 14 (.int (nI v3w4)))[14]? = some (.int (nI v3w4)) := List.getElem?_set_self (by rw [hn9]; decide)
        have hk_15 := fld12_set (k := 14) (w := .int (nI v3w4)) hl9 (show fld12 K L 14 (fs9.set 14 (.int (nI v3w4))) from ⟨v3w4, hs_16, by omega⟩)
        have hn_17 : (fs9.set 14 (.int (nI v3w4))).length = 51 := by rw [List.length_set]; exact hn9
        have hb_18 : v3w4 ≤ 120 := by omega
        obtain ⟨M_19, eM_19⟩ : ∃ M1 : Hp, M1 = va_up M_7 k1 (.inr (12, fs9.set 14 (.int (nI v3w4)))) := ⟨_, rfl⟩
        have hP : va_P D vwCl ([] ++ va_pl L M_19) H_13 := by rw [eM_19]; exact hP
        have hD : va_D A ([] ++ va_pl L M_19) := by rw [eM_19]; exact hD
        have hW : WOM cy K L M_19 := by rw [eM_19]; exact hW.up_12 ik1 ⟨_, rfl, hn_17, hk_15⟩
        have hF : fr K L [12, 14, 15, 32, 79, 80, 81] M M_19 := by rw [eM_19]; exact hF.up ik1 (by decide)
        have hG : fG K L [8, 14] M M_19 := by rw [eM_19]; exact hG.up hM9 (by decide)
        have hM_20 : M_19 k1 = .inr (12, fs9.set 14 (.int (nI v3w4))) := by rw [eM_19]; exact va_up_self _ _ _
        refine lv_iconst (v := 0) hx hb dX13_settled_115 (by decide) ?_
        refine lv_istore (lv' := [(4, .int 0), (3, .int (nI v3w4)), (0, .ref k1), (1, .int k2), (2, .int k3)]) hx hb dX13_settled_116 hl (by decide) rfl (fun ls hl => ?_)
        have key_21 : ∀ (fu_23 : Nat) (v4w24 : Nat) (M_26 : Hp) (H_27 : Heap) (locs : List Loc) (ls : Array Slot), 24 - v4w24 < fu_23 → v4w24 ≤ 24 → WOM cy K L M_26 → fr K L [12, 14, 15, 32, 79, 80, 81] M M_26 → fG K L [8, 14] M M_26 → va_P D vwCl ([] ++ va_pl L M_26) H_27 → va_D A ([] ++ va_pl L M_26) → va_S A s.heap H_27 locs → lv_has ls 5 [(4, .int (nI v4w24)), (3, .int (nI v3w4)), (0, .ref k1), (1, .int k2), (2, .int k3)] → W p l e R s m ([.ref k1, .int k2, .int k3] : List Value).toArray below meth c H_27 locs 0 0 Q (F0 m 118 ls []) := by
          intro fu_23
          induction fu_23 with
          | zero => intro v4w24 M_26 H_27 locs ls h; exact absurd h (Nat.not_lt_zero _)
          | succ fu_23 ih_22 =>
            intro v4w24 M_26 H_27 locs ls hfu hx_25 hW hF hG hP hD hS hl
            refine lv_iload hx hb dX13_settled_118 (lv_at hl 0 rfl) ?_
            refine lv_aload_n hx hb dX13_settled_120 rfl (lv_at hl 2 rfl) ?_
            obtain ⟨fs28, hM28, hn28, hl28⟩ := hW.open_12 ik1
            obtain ⟨v29, hv29, hc29⟩ : ∃ v : Nat, fs28[10]? = some (.int (nI v) : Value) ∧ v ≤ 24 := hl28 10 (by decide)
            refine pg_getN (D := D) (ci := 12) (v := .int (nI v29)) (C := RX12) (T := TX12) (N := 51) hx hb hg inG12 hown hK hP ik1.1 hM28 rfl 10 (by decide) (hN.use (Cond.fieldLinkNest RX13 68 RX12 "tenures" "I" RX13) 19 rfl rfl) (fun _ h9 => h9) hv29 dX13_settled_121 ?_
            refine lv_icmp_ge (tgt := 150) hx hb dX13_settled_124 (by decide) (fun c_30 => ?_) (fun c_30 => ?_)
            · have hz := rfl (a := 0)
              have n_31 : v29 ≤ v4w24 := (iLE (a := v29) (b := v4w24) (by omega) (by omega)).mp c_30
              refine lv_iconst (v := 0) hx hb dX13_settled_150 (by decide) ?_
              refine lv_istore (lv' := [(4, .int 0), (3, .int (nI v3w4)), (0, .ref k1), (1, .int k2), (2, .int k3)]) hx hb dX13_settled_151 hl (by decide) rfl (fun ls hl => ?_)
              have key_32 : ∀ (fu_34 : Nat) (v4w35 : Nat) (M_37 : Hp) (H_38 : Heap) (locs : List Loc) (ls : Array Slot), 120 - v4w35 < fu_34 → v4w35 ≤ 120 → WOM cy K L M_37 → fr K L [12, 14, 15, 32, 79, 80, 81] M M_37 → fG K L [8, 14] M M_37 → va_P D vwCl ([] ++ va_pl L M_37) H_38 → va_D A ([] ++ va_pl L M_37) → va_S A s.heap H_38 locs → lv_has ls 5 [(4, .int (nI v4w35)), (3, .int (nI v3w4)), (0, .ref k1), (1, .int k2), (2, .int k3)] → W p l e R s m ([.ref k1, .int k2, .int k3] : List Value).toArray below meth c H_38 locs 0 0 Q (F0 m 153 ls []) := by
                intro fu_34
                induction fu_34 with
                | zero => intro v4w35 M_37 H_38 locs ls h; exact absurd h (Nat.not_lt_zero _)
                | succ fu_34 ih_33 =>
                  intro v4w35 M_37 H_38 locs ls hfu hx_36 hW hF hG hP hD hS hl
                  refine lv_iload hx hb dX13_settled_153 (lv_at hl 0 rfl) ?_
                  refine lv_aload_n hx hb dX13_settled_155 rfl (lv_at hl 2 rfl) ?_
                  obtain ⟨fs39, hM39, hn39, hl39⟩ := hW.open_12 ik1
                  obtain ⟨v40, hv40, hc40⟩ : ∃ v : Nat, fs39[17]? = some (.int (nI v) : Value) ∧ v ≤ 120 := hl39 17 (by decide)
                  refine pg_getN (D := D) (ci := 12) (v := .int (nI v40)) (C := RX12) (T := TX12) (N := 51) hx hb hg inG12 hown hK hP ik1.1 hM39 rfl 17 (by decide) (hN.use (Cond.fieldLinkNest RX13 256 RX12 "stretches" "I" RX13) 26 rfl rfl) (fun _ h9 => h9) hv40 dX13_settled_156 ?_
                  refine lv_icmp_ge (tgt := 184) hx hb dX13_settled_159 (by decide) (fun c_41 => ?_) (fun c_41 => ?_)
                  · have hz := rfl (a := 0)
                    have n_42 : v40 ≤ v4w35 := (iLE (a := v40) (b := v4w35) (by omega) (by omega)).mp c_41
                    rw [hQ]
                    exact W.vret hx hb hr (fun t ht hW9 => ⟨⟨M_37, rfl, ⟨hW, hF, hG, trivial⟩, ⟨by rw [ht]; exact hP, hD⟩⟩, hS.F ht⟩) hS.2.2 dX13_settled_184
                  · have hz := rfl (a := 0)
                    have n_43 : ¬ (v40 ≤ v4w35) := fun q => c_41 ((iLE (a := v40) (b := v4w35) (by omega) (by omega)).mpr q)
                    refine lv_aload_n hx hb dX13_settled_162 rfl (lv_at hl 2 rfl) ?_
                    refine lv_dup hx hb dX13_settled_163 rfl ?_
                    obtain ⟨v44, hv44⟩ : ∃ v : Int64, fs39[8]? = some (.long v : Value) := hl39 8 (by decide)
                    refine pg_getN (D := D) (ci := 12) (v := .long v44) (C := RX12) (T := TX12) (N := 51) hx hb hg inG12 hown hK hP ik1.1 hM39 rfl 8 (by decide) (hN.use (Cond.fieldLinkNest RX13 364 RX12 "nobody" "J" RX13) 17 rfl rfl) (fun _ h9 => h9) hv44 dX13_settled_164 ?_
                    refine lv_aload_n hx hb dX13_settled_167 rfl (lv_at hl 2 rfl) ?_
                    obtain ⟨v45, hv45, hc45⟩ : ∃ v : Nat, fs39[48]? = some (.ref v : Value) ∧ isk K L v 15 120 := hl39 48 (by decide)
                    refine pg_getN (D := D) (ci := 12) (v := .ref v45) (C := RX12) (T := TX12) (N := 51) hx hb hg inG12 hown hK hP ik1.1 hM39 rfl 48 (by decide) (hN.use (Cond.fieldLinkNest RX13 304 RX12 "none" "[J" RX13) 57 rfl rfl) (fun _ h9 => h9) hv45 dX13_settled_168 ?_
                    refine lv_iload hx hb dX13_settled_171 (lv_at hl 0 rfl) ?_
                    obtain ⟨f46, hM46⟩ := hW.open_15 hc45
                    refine pg_lald hx hb hK hP hc45.1 1 hM46 rfl (inbN v4w35 120 (by omega) (by omega)) dX13_settled_173 ?_
                    refine lv_topl (fun f_47 ef_47 => ?_)
                    refine lv_ladd hx hb dX13_settled_174 ?_
                    refine lv_topl (fun f_48 ef_48 => ?_)
                    refine pg_putN (D := D) (ci := 12) (v := .long f_48) (ty := .long) (C := RX12) (T := TX12) (N := 51) hx hb hg inG12 tyX12 tyX12_ok nmX12 hown hK hP hD hS ik1.1 hM39 rfl 8 (by decide) (hN.use (Cond.fieldLinkNest RX13 364 RX12 "nobody" "J" RX13) 17 rfl rfl) (fun _ h9 => h9) rfl (by decide +kernel) rfl rfl (by rw [hn39]; decide) dX13_settled_175 (fun H_49 locs hP hD hS => ?_)
                    have hs_52 : (fs39.set 8 (.long f_48))[8]? = some (.long f_48) := List.getElem?_set_self (by rw [hn39]; decide)
                    have hk_51 := fld12_set (k := 8) (w := .long f_48) hl39 (show fld12 K L 8 (fs39.set 8 (.long f_48)) from ⟨f_48, hs_52⟩)
                    have hn_53 : (fs39.set 8 (.long f_48)).length = 51 := by rw [List.length_set]; exact hn39
                    have hv_54 : (fs39.set 8 (.long f_48))[17]? = some (.int (nI v40)) := by rw [List.getElem?_set_ne (by decide)]; exact hv40
                    have hv_55 : (fs39.set 8 (.long f_48))[48]? = some (.ref v45) := by rw [List.getElem?_set_ne (by decide)]; exact hv45
                    obtain ⟨M_56, eM_56⟩ : ∃ M1 : Hp, M1 = va_up M_37 k1 (.inr (12, fs39.set 8 (.long f_48))) := ⟨_, rfl⟩
                    have hP : va_P D vwCl ([] ++ va_pl L M_56) H_49 := by rw [eM_56]; exact hP
                    have hD : va_D A ([] ++ va_pl L M_56) := by rw [eM_56]; exact hD
                    have hW : WOM cy K L M_56 := by rw [eM_56]; exact hW.up_12 ik1 ⟨_, rfl, hn_53, hk_51⟩
                    have hF : fr K L [12, 14, 15, 32, 79, 80, 81] M M_56 := by rw [eM_56]; exact hF.up ik1 (by decide)
                    have hG : fG K L [8, 14] M M_56 := by rw [eM_56]; exact hG.up hM39 (by decide)
                    have hM_57 : M_56 k1 = .inr (12, fs39.set 8 (.long f_48)) := by rw [eM_56]; exact va_up_self _ _ _
                    have hM_58 : M_56 v45 = .inl (cy 15, 120, .inr (.inl (f46))) := by rw [eM_56, va_up_ne _ _ (hc45.neT ik1 (by decide))]; exact hM46
                    refine lv_iinc (v := (nI (v4w35 + 1))) (lv' := [(4, .int (nI (v4w35 + 1))), (3, .int (nI v3w4)), (0, .ref k1), (1, .int k2), (2, .int k3)]) hx hb dX13_settled_178 hl (k := 0) rfl (nI_1 v4w35) (by decide) rfl (fun ls hl => ?_)
                    refine lv_goto (tgt := 153) hx hb dX13_settled_181 (by decide) ?_
                    exact ih_33 (v4w35 + 1) M_56 H_49 _ _ (by omega) (by omega) hW hF hG hP hD hS (lv_sub hl [0, 1, 2, 3, 4] rfl)
              exact key_32 (120 - 0 + 1) 0 M_26 H_27 _ _ (by omega) (by omega) hW hF hG hP hD hS (lv_sub hl [0, 1, 2, 3, 4] rfl)
            · have hz := rfl (a := 0)
              have n_59 : ¬ (v29 ≤ v4w24) := fun q => c_30 ((iLE (a := v29) (b := v4w24) (by omega) (by omega)).mpr q)
              refine lv_aload_n hx hb dX13_settled_127 rfl (lv_at hl 2 rfl) ?_
              obtain ⟨v60, hv60, hc60⟩ : ∃ v : Nat, fs28[27]? = some (.ref v : Value) ∧ isk K L v 15 24 := hl28 27 (by decide)
              refine pg_getN (D := D) (ci := 12) (v := .ref v60) (C := RX12) (T := TX12) (N := 51) hx hb hg inG12 hown hK hP ik1.1 hM28 rfl 27 (by decide) (hN.use (Cond.fieldLinkNest RX13 307 RX12 "credit" "[J" RX13) 36 rfl rfl) (fun _ h9 => h9) hv60 dX13_settled_128 ?_
              refine lv_iload hx hb dX13_settled_131 (lv_at hl 0 rfl) ?_
              refine lv_dup2_11 hx hb dX13_settled_133 rfl rfl ?_
              obtain ⟨f61, hM61⟩ := hW.open_15 hc60
              refine pg_lald hx hb hK hP hc60.1 1 hM61 rfl (inbN v4w24 24 (by omega) (by omega)) dX13_settled_134 ?_
              refine lv_topl (fun f_62 ef_62 => ?_)
              refine lv_aload_n hx hb dX13_settled_135 rfl (lv_at hl 2 rfl) ?_
              obtain ⟨v63, hv63, hc63⟩ : ∃ v : Nat, fs28[33]? = some (.ref v : Value) ∧ isk K L v 15 24 := hl28 33 (by decide)
              refine pg_getN (D := D) (ci := 12) (v := .ref v63) (C := RX12) (T := TX12) (N := 51) hx hb hg inG12 hown hK hP ik1.1 hM28 rfl 33 (by decide) (hN.use (Cond.fieldLinkNest RX13 259 RX12 "dues" "[J" RX13) 42 rfl rfl) (fun _ h9 => h9) hv63 dX13_settled_136 ?_
              refine lv_iload hx hb dX13_settled_139 (lv_at hl 0 rfl) ?_
              obtain ⟨f64, hM64⟩ := hW.open_15 hc63
              refine pg_lald hx hb hK hP hc63.1 1 hM64 rfl (inbN v4w24 24 (by omega) (by omega)) dX13_settled_141 ?_
              refine lv_topl (fun f_65 ef_65 => ?_)
              refine lv_ladd hx hb dX13_settled_142 ?_
              refine lv_topl (fun f_66 ef_66 => ?_)
              refine pg_last hx hb hK hP hD hS hc60.1 1 hM61 rfl (inbN v4w24 24 (by omega) (by omega)) dX13_settled_143 (fun H_67 locs hP hD hS => ?_)
              obtain ⟨M_68, eM_68⟩ : ∃ M1 : Hp, M1 = va_up M_26 v60 (.inl (cy 15, 24, .inr (.inl (vp_updL f61 ((nI v4w24) : Int32).toNatClampNeg f_66)))) := ⟨_, rfl⟩
              have hP : va_P D vwCl ([] ++ va_pl L M_68) H_67 := by rw [eM_68]; exact hP
              have hD : va_D A ([] ++ va_pl L M_68) := by rw [eM_68]; exact hD
              have hW : WOM cy K L M_68 := by rw [eM_68]; exact hW.up_15 hc60 ⟨_, rfl⟩
              have hF : fr K L [12, 14, 15, 32, 79, 80, 81] M M_68 := by rw [eM_68]; exact hF.up hc60 (by decide)
              have hG : fG K L [8, 14] M M_68 := by rw [eM_68]; exact hG.arr hc60 (by decide)
              have hM_69 : M_68 v60 = .inl (cy 15, 24, .inr (.inl (vp_updL f61 ((nI v4w24) : Int32).toNatClampNeg f_66))) := by rw [eM_68]; exact va_up_self _ _ _
              have hM_70 : M_68 k1 = .inr (12, fs28) := by rw [eM_68, va_up_ne _ _ (ik1.neT hc60 (by decide))]; exact hM28
              obtain ⟨f_71, ef_71⟩ : ∃ f : Nat → Int64, f = vp_updL f61 ((nI v4w24) : Int32).toNatClampNeg f_66 := ⟨_, rfl⟩
              rw [← ef_71] at hM_69
              clear ef_71
              refine lv_iinc (v := (nI (v4w24 + 1))) (lv' := [(4, .int (nI (v4w24 + 1))), (3, .int (nI v3w4)), (0, .ref k1), (1, .int k2), (2, .int k3)]) hx hb dX13_settled_144 hl (k := 0) rfl (nI_1 v4w24) (by decide) rfl (fun ls hl => ?_)
              refine lv_goto (tgt := 118) hx hb dX13_settled_147 (by decide) ?_
              exact ih_22 (v4w24 + 1) M_68 H_67 _ _ (by omega) (by omega) hW hF hG hP hD hS (lv_sub hl [0, 1, 2, 3, 4] rfl)
        exact key_21 (24 - 0 + 1) 0 M_19 H_13 _ _ (by omega) (by omega) hW hF hG hP hD hS (lv_sub hl [0, 1, 2, 3, 4] rfl)
      · have hz := rfl (a := 0)
        have n_72 : ¬ (v10 ≤ v4w4) := fun q => c_11 ((iLE (a := v10) (b := v4w4) (by omega) (by omega)).mpr q)
        refine lv_aload_n hx hb dX13_settled_14 rfl (lv_at hl 2 rfl) ?_
        obtain ⟨v73, hv73, hc73⟩ : ∃ v : Nat, fs9[39]? = some (.ref v : Value) ∧ isk K L v 80 120 := hl9 39 (by decide)
        refine pg_getN (D := D) (ci := 12) (v := .ref v73) (C := RX12) (T := TX12) (N := 51) hx hb hg inG12 hown hK hP ik1.1 hM9 rfl 39 (by decide) (hN.use (Cond.fieldLinkNest RX13 199 RX12 "moveDay" "[I" RX13) 48 rfl rfl) (fun _ h9 => h9) hv73 dX13_settled_15 ?_
        refine lv_iload hx hb dX13_settled_18 (lv_at hl 0 rfl) ?_
        obtain ⟨f74, hM74⟩ := hW.open_80 hc73
        refine pg_iald hx hb hK hP hc73.1 0 hM74 rfl (inbN v4w4 120 (by omega) (by omega)) dX13_settled_20 ?_
        refine lv_topi (fun f_75 ef_75 => ?_)
        refine lv_iload_n hx hb dX13_settled_21 rfl (lv_at hl 3 rfl) ?_
        refine lv_icmp_lt (tgt := 62) hx hb dX13_settled_22 (by decide) (fun c_76 => ?_) (fun c_76 => ?_)
        · have hz := rfl (a := 0)
          refine lv_aload_n hx hb dX13_settled_62 rfl (lv_at hl 2 rfl) ?_
          obtain ⟨v77, hv77, hc77⟩ : ∃ v : Nat, fs9[38]? = some (.ref v : Value) ∧ isk K L v 79 120 := hl9 38 (by decide)
          refine pg_getN (D := D) (ci := 12) (v := .ref v77) (C := RX12) (T := TX12) (N := 51) hx hb hg inG12 hown hK hP ik1.1 hM9 rfl 38 (by decide) (hN.use (Cond.fieldLinkNest RX13 196 RX12 "moveOf" "[I" RX13) 47 rfl rfl) (fun _ h9 => h9) hv77 dX13_settled_63 ?_
          refine lv_iload_n hx hb dX13_settled_66 rfl (lv_at hl 1 rfl) ?_
          refine lv_aload_n hx hb dX13_settled_67 rfl (lv_at hl 2 rfl) ?_
          refine pg_getN (D := D) (ci := 12) (v := .ref v77) (C := RX12) (T := TX12) (N := 51) hx hb hg inG12 hown hK hP ik1.1 hM9 rfl 38 (by decide) (hN.use (Cond.fieldLinkNest RX13 196 RX12 "moveOf" "[I" RX13) 47 rfl rfl) (fun _ h9 => h9) hv77 dX13_settled_68 ?_
          refine lv_iload hx hb dX13_settled_71 (lv_at hl 0 rfl) ?_
          obtain ⟨f78, hM78, hf78⟩ := hW.open_79 hc77
          have hi_79 : vp_in (nI v4w4) 120 := (inbN v4w4 120 (by omega) (by omega))
          refine pg_iald hx hb hK hP hc77.1 0 hM78 rfl hi_79 dX13_settled_73 ?_
          have hp_80 := hf78 _ (vp_lt hi_79)
          obtain ⟨c_81, hc_82, ec_83⟩ := hp_80
          rw [ec_83]
          refine pg_iast hx hb hK hP hD hS hc77.1 0 hM78 rfl (inbN v3w4 120 (by omega) (by omega)) dX13_settled_74 (fun H_84 locs hP hD hS => ?_)
          obtain ⟨M_85, eM_85⟩ : ∃ M1 : Hp, M1 = va_up M_7 v77 (.inl (cy 14, 120, .inl (upd f78 ((nI v3w4) : Int32).toNatClampNeg (nI c_81)))) := ⟨_, rfl⟩
          have hP : va_P D vwCl ([] ++ va_pl L M_85) H_84 := by rw [eM_85]; exact hP
          have hD : va_D A ([] ++ va_pl L M_85) := by rw [eM_85]; exact hD
          have hW : WOM cy K L M_85 := by rw [eM_85]; exact hW.up_79 hc77 ⟨_, rfl, (updP (P := fun z => ∃ c : Nat, c < 24 ∧ z = nI c) hf78 ⟨c_81, by omega, rfl⟩)⟩
          have hF : fr K L [12, 14, 15, 32, 79, 80, 81] M M_85 := by rw [eM_85]; exact hF.up hc77 (by decide)
          have hG : fG K L [8, 14] M M_85 := by rw [eM_85]; exact hG.arr hc77 (by decide)
          have hM_86 : M_85 v77 = .inl (cy 14, 120, .inl (upd f78 ((nI v3w4) : Int32).toNatClampNeg (nI c_81))) := by rw [eM_85]; exact va_up_self _ _ _
          have hM_87 : M_85 k1 = .inr (12, fs9) := by rw [eM_85, va_up_ne _ _ (ik1.neT hc77 (by decide))]; exact hM9
          have hM_88 : M_85 v73 = .inl (cy 14, 120, .inl (f74)) := by rw [eM_85, va_up_ne _ _ (hc73.neT hc77 (by decide))]; exact hM74
          have hf_90 : ∀ j, j < 120 → ∃ c : Nat, c < 24 ∧ (upd f78 ((nI v3w4) : Int32).toNatClampNeg (nI c_81)) j = nI c := (updP (P := fun z => ∃ c : Nat, c < 24 ∧ z = nI c) hf78 ⟨c_81, by omega, rfl⟩)
          obtain ⟨f_89, ef_89⟩ : ∃ f : Nat → Int32, f = upd f78 ((nI v3w4) : Int32).toNatClampNeg (nI c_81) := ⟨_, rfl⟩
          rw [← ef_89] at hM_86 hf_90
          clear ef_89
          refine lv_aload_n hx hb dX13_settled_75 rfl (lv_at hl 2 rfl) ?_
          refine pg_getN (D := D) (ci := 12) (v := .ref v73) (C := RX12) (T := TX12) (N := 51) hx hb hg inG12 hown hK hP ik1.1 hM_87 rfl 39 (by decide) (hN.use (Cond.fieldLinkNest RX13 199 RX12 "moveDay" "[I" RX13) 48 rfl rfl) (fun _ h9 => h9) hv73 dX13_settled_76 ?_
          refine lv_iload_n hx hb dX13_settled_79 rfl (lv_at hl 1 rfl) ?_
          refine lv_aload_n hx hb dX13_settled_80 rfl (lv_at hl 2 rfl) ?_
          refine pg_getN (D := D) (ci := 12) (v := .ref v73) (C := RX12) (T := TX12) (N := 51) hx hb hg inG12 hown hK hP ik1.1 hM_87 rfl 39 (by decide) (hN.use (Cond.fieldLinkNest RX13 199 RX12 "moveDay" "[I" RX13) 48 rfl rfl) (fun _ h9 => h9) hv73 dX13_settled_81 ?_
          refine lv_iload hx hb dX13_settled_84 (lv_at hl 0 rfl) ?_
          refine pg_iald hx hb hK hP hc73.1 0 hM_88 rfl (inbN v4w4 120 (by omega) (by omega)) dX13_settled_86 ?_
          refine lv_topi (fun f_91 ef_91 => ?_)
          refine pg_iast hx hb hK hP hD hS hc73.1 0 hM_88 rfl (inbN v3w4 120 (by omega) (by omega)) dX13_settled_87 (fun H_92 locs hP hD hS => ?_)
          obtain ⟨M_93, eM_93⟩ : ∃ M1 : Hp, M1 = va_up M_85 v73 (.inl (cy 14, 120, .inl (upd f74 ((nI v3w4) : Int32).toNatClampNeg f_91))) := ⟨_, rfl⟩
          have hP : va_P D vwCl ([] ++ va_pl L M_93) H_92 := by rw [eM_93]; exact hP
          have hD : va_D A ([] ++ va_pl L M_93) := by rw [eM_93]; exact hD
          have hW : WOM cy K L M_93 := by rw [eM_93]; exact hW.up_80 hc73 ⟨_, rfl⟩
          have hF : fr K L [12, 14, 15, 32, 79, 80, 81] M M_93 := by rw [eM_93]; exact hF.up hc73 (by decide)
          have hG : fG K L [8, 14] M M_93 := by rw [eM_93]; exact hG.arr hc73 (by decide)
          have hM_94 : M_93 v73 = .inl (cy 14, 120, .inl (upd f74 ((nI v3w4) : Int32).toNatClampNeg f_91)) := by rw [eM_93]; exact va_up_self _ _ _
          have hM_95 : M_93 v77 = .inl (cy 14, 120, .inl (f_89)) := by rw [eM_93, va_up_ne _ _ (hc77.neT hc73 (by decide))]; exact hM_86
          have hM_96 : M_93 k1 = .inr (12, fs9) := by rw [eM_93, va_up_ne _ _ (ik1.neT hc73 (by decide))]; exact hM_87
          obtain ⟨f_97, ef_97⟩ : ∃ f : Nat → Int32, f = upd f74 ((nI v3w4) : Int32).toNatClampNeg f_91 := ⟨_, rfl⟩
          rw [← ef_97] at hM_94
          clear ef_97
          refine lv_aload_n hx hb dX13_settled_88 rfl (lv_at hl 2 rfl) ?_
          obtain ⟨v98, hv98, hc98⟩ : ∃ v : Nat, fs9[40]? = some (.ref v : Value) ∧ isk K L v 81 120 := hl9 40 (by decide)
          refine pg_getN (D := D) (ci := 12) (v := .ref v98) (C := RX12) (T := TX12) (N := 51) hx hb hg inG12 hown hK hP ik1.1 hM_96 rfl 40 (by decide) (hN.use (Cond.fieldLinkNest RX13 202 RX12 "moveSum" "[I" RX13) 49 rfl rfl) (fun _ h9 => h9) hv98 dX13_settled_89 ?_
          refine lv_iload_n hx hb dX13_settled_92 rfl (lv_at hl 1 rfl) ?_
          refine lv_aload_n hx hb dX13_settled_93 rfl (lv_at hl 2 rfl) ?_
          refine pg_getN (D := D) (ci := 12) (v := .ref v98) (C := RX12) (T := TX12) (N := 51) hx hb hg inG12 hown hK hP ik1.1 hM_96 rfl 40 (by decide) (hN.use (Cond.fieldLinkNest RX13 202 RX12 "moveSum" "[I" RX13) 49 rfl rfl) (fun _ h9 => h9) hv98 dX13_settled_94 ?_
          refine lv_iload hx hb dX13_settled_97 (lv_at hl 0 rfl) ?_
          obtain ⟨f99, hM99⟩ := hW.open_81 hc98
          refine pg_iald hx hb hK hP hc98.1 0 hM99 rfl (inbN v4w4 120 (by omega) (by omega)) dX13_settled_99 ?_
          refine lv_topi (fun f_100 ef_100 => ?_)
          refine pg_iast hx hb hK hP hD hS hc98.1 0 hM99 rfl (inbN v3w4 120 (by omega) (by omega)) dX13_settled_100 (fun H_101 locs hP hD hS => ?_)
          obtain ⟨M_102, eM_102⟩ : ∃ M1 : Hp, M1 = va_up M_93 v98 (.inl (cy 14, 120, .inl (upd f99 ((nI v3w4) : Int32).toNatClampNeg f_100))) := ⟨_, rfl⟩
          have hP : va_P D vwCl ([] ++ va_pl L M_102) H_101 := by rw [eM_102]; exact hP
          have hD : va_D A ([] ++ va_pl L M_102) := by rw [eM_102]; exact hD
          have hW : WOM cy K L M_102 := by rw [eM_102]; exact hW.up_81 hc98 ⟨_, rfl⟩
          have hF : fr K L [12, 14, 15, 32, 79, 80, 81] M M_102 := by rw [eM_102]; exact hF.up hc98 (by decide)
          have hG : fG K L [8, 14] M M_102 := by rw [eM_102]; exact hG.arr hc98 (by decide)
          have hM_103 : M_102 v98 = .inl (cy 14, 120, .inl (upd f99 ((nI v3w4) : Int32).toNatClampNeg f_100)) := by rw [eM_102]; exact va_up_self _ _ _
          have hM_104 : M_102 v73 = .inl (cy 14, 120, .inl (f_97)) := by rw [eM_102, va_up_ne _ _ (hc73.neT hc98 (by decide))]; exact hM_94
          have hM_105 : M_102 v77 = .inl (cy 14, 120, .inl (f_89)) := by rw [eM_102, va_up_ne _ _ (hc77.neT hc98 (by decide))]; exact hM_95
          have hM_106 : M_102 k1 = .inr (12, fs9) := by rw [eM_102, va_up_ne _ _ (ik1.neT hc98 (by decide))]; exact hM_96
          obtain ⟨f_107, ef_107⟩ : ∃ f : Nat → Int32, f = upd f99 ((nI v3w4) : Int32).toNatClampNeg f_100 := ⟨_, rfl⟩
          rw [← ef_107] at hM_103
          clear ef_107
          refine lv_iinc (v := (nI (v3w4 + 1))) (lv' := [(3, .int (nI (v3w4 + 1))), (4, .int (nI v4w4)), (0, .ref k1), (1, .int k2), (2, .int k3)]) hx hb dX13_settled_101 hl (k := 1) rfl (nI_1 v3w4) (by decide) rfl (fun ls hl => ?_)
          refine lv_iinc (v := (nI (v4w4 + 1))) (lv' := [(4, .int (nI (v4w4 + 1))), (3, .int (nI (v3w4 + 1))), (0, .ref k1), (1, .int k2), (2, .int k3)]) hx hb dX13_settled_104 hl (k := 1) rfl (nI_1 v4w4) (by decide) rfl (fun ls hl => ?_)
          refine lv_goto (tgt := 5) hx hb dX13_settled_107 (by decide) ?_
          exact ih_2 (v3w4 + 1) (v4w4 + 1) M_102 H_101 _ _ (by omega) (by omega) (by omega) hW hF hG hP hD hS (lv_sub hl [0, 1, 2, 3, 4] rfl)
        · have hz := rfl (a := 0)
          refine lv_aload_n hx hb dX13_settled_25 rfl (lv_at hl 2 rfl) ?_
          refine pg_getN (D := D) (ci := 12) (v := .ref v73) (C := RX12) (T := TX12) (N := 51) hx hb hg inG12 hown hK hP ik1.1 hM9 rfl 39 (by decide) (hN.use (Cond.fieldLinkNest RX13 199 RX12 "moveDay" "[I" RX13) 48 rfl rfl) (fun _ h9 => h9) hv73 dX13_settled_26 ?_
          refine lv_iload hx hb dX13_settled_29 (lv_at hl 0 rfl) ?_
          refine pg_iald hx hb hK hP hc73.1 0 hM74 rfl (inbN v4w4 120 (by omega) (by omega)) dX13_settled_31 ?_
          refine lv_topi (fun f_108 ef_108 => ?_)
          refine lv_iload_n hx hb dX13_settled_32 rfl (lv_at hl 4 rfl) ?_
          refine lv_icmp_gt (tgt := 62) hx hb dX13_settled_33 (by decide) (fun c_109 => ?_) (fun c_109 => ?_)
          · have hz := rfl (a := 0)
            refine lv_aload_n hx hb dX13_settled_62 rfl (lv_at hl 2 rfl) ?_
            obtain ⟨v110, hv110, hc110⟩ : ∃ v : Nat, fs9[38]? = some (.ref v : Value) ∧ isk K L v 79 120 := hl9 38 (by decide)
            refine pg_getN (D := D) (ci := 12) (v := .ref v110) (C := RX12) (T := TX12) (N := 51) hx hb hg inG12 hown hK hP ik1.1 hM9 rfl 38 (by decide) (hN.use (Cond.fieldLinkNest RX13 196 RX12 "moveOf" "[I" RX13) 47 rfl rfl) (fun _ h9 => h9) hv110 dX13_settled_63 ?_
            refine lv_iload_n hx hb dX13_settled_66 rfl (lv_at hl 1 rfl) ?_
            refine lv_aload_n hx hb dX13_settled_67 rfl (lv_at hl 2 rfl) ?_
            refine pg_getN (D := D) (ci := 12) (v := .ref v110) (C := RX12) (T := TX12) (N := 51) hx hb hg inG12 hown hK hP ik1.1 hM9 rfl 38 (by decide) (hN.use (Cond.fieldLinkNest RX13 196 RX12 "moveOf" "[I" RX13) 47 rfl rfl) (fun _ h9 => h9) hv110 dX13_settled_68 ?_
            refine lv_iload hx hb dX13_settled_71 (lv_at hl 0 rfl) ?_
            obtain ⟨f111, hM111, hf111⟩ := hW.open_79 hc110
            have hi_112 : vp_in (nI v4w4) 120 := (inbN v4w4 120 (by omega) (by omega))
            refine pg_iald hx hb hK hP hc110.1 0 hM111 rfl hi_112 dX13_settled_73 ?_
            have hp_113 := hf111 _ (vp_lt hi_112)
            obtain ⟨c_114, hc_115, ec_116⟩ := hp_113
            rw [ec_116]
            refine pg_iast hx hb hK hP hD hS hc110.1 0 hM111 rfl (inbN v3w4 120 (by omega) (by omega)) dX13_settled_74 (fun H_117 locs hP hD hS => ?_)
            obtain ⟨M_118, eM_118⟩ : ∃ M1 : Hp, M1 = va_up M_7 v110 (.inl (cy 14, 120, .inl (upd f111 ((nI v3w4) : Int32).toNatClampNeg (nI c_114)))) := ⟨_, rfl⟩
            have hP : va_P D vwCl ([] ++ va_pl L M_118) H_117 := by rw [eM_118]; exact hP
            have hD : va_D A ([] ++ va_pl L M_118) := by rw [eM_118]; exact hD
            have hW : WOM cy K L M_118 := by rw [eM_118]; exact hW.up_79 hc110 ⟨_, rfl, (updP (P := fun z => ∃ c : Nat, c < 24 ∧ z = nI c) hf111 ⟨c_114, by omega, rfl⟩)⟩
            have hF : fr K L [12, 14, 15, 32, 79, 80, 81] M M_118 := by rw [eM_118]; exact hF.up hc110 (by decide)
            have hG : fG K L [8, 14] M M_118 := by rw [eM_118]; exact hG.arr hc110 (by decide)
            have hM_119 : M_118 v110 = .inl (cy 14, 120, .inl (upd f111 ((nI v3w4) : Int32).toNatClampNeg (nI c_114))) := by rw [eM_118]; exact va_up_self _ _ _
            have hM_120 : M_118 k1 = .inr (12, fs9) := by rw [eM_118, va_up_ne _ _ (ik1.neT hc110 (by decide))]; exact hM9
            have hM_121 : M_118 v73 = .inl (cy 14, 120, .inl (f74)) := by rw [eM_118, va_up_ne _ _ (hc73.neT hc110 (by decide))]; exact hM74
            have hf_123 : ∀ j, j < 120 → ∃ c : Nat, c < 24 ∧ (upd f111 ((nI v3w4) : Int32).toNatClampNeg (nI c_114)) j = nI c := (updP (P := fun z => ∃ c : Nat, c < 24 ∧ z = nI c) hf111 ⟨c_114, by omega, rfl⟩)
            obtain ⟨f_122, ef_122⟩ : ∃ f : Nat → Int32, f = upd f111 ((nI v3w4) : Int32).toNatClampNeg (nI c_114) := ⟨_, rfl⟩
            rw [← ef_122] at hM_119 hf_123
            clear ef_122
            refine lv_aload_n hx hb dX13_settled_75 rfl (lv_at hl 2 rfl) ?_
            refine pg_getN (D := D) (ci := 12) (v := .ref v73) (C := RX12) (T := TX12) (N := 51) hx hb hg inG12 hown hK hP ik1.1 hM_120 rfl 39 (by decide) (hN.use (Cond.fieldLinkNest RX13 199 RX12 "moveDay" "[I" RX13) 48 rfl rfl) (fun _ h9 => h9) hv73 dX13_settled_76 ?_
            refine lv_iload_n hx hb dX13_settled_79 rfl (lv_at hl 1 rfl) ?_
            refine lv_aload_n hx hb dX13_settled_80 rfl (lv_at hl 2 rfl) ?_
            refine pg_getN (D := D) (ci := 12) (v := .ref v73) (C := RX12) (T := TX12) (N := 51) hx hb hg inG12 hown hK hP ik1.1 hM_120 rfl 39 (by decide) (hN.use (Cond.fieldLinkNest RX13 199 RX12 "moveDay" "[I" RX13) 48 rfl rfl) (fun _ h9 => h9) hv73 dX13_settled_81 ?_
            refine lv_iload hx hb dX13_settled_84 (lv_at hl 0 rfl) ?_
            refine pg_iald hx hb hK hP hc73.1 0 hM_121 rfl (inbN v4w4 120 (by omega) (by omega)) dX13_settled_86 ?_
            refine lv_topi (fun f_124 ef_124 => ?_)
            refine pg_iast hx hb hK hP hD hS hc73.1 0 hM_121 rfl (inbN v3w4 120 (by omega) (by omega)) dX13_settled_87 (fun H_125 locs hP hD hS => ?_)
            obtain ⟨M_126, eM_126⟩ : ∃ M1 : Hp, M1 = va_up M_118 v73 (.inl (cy 14, 120, .inl (upd f74 ((nI v3w4) : Int32).toNatClampNeg f_124))) := ⟨_, rfl⟩
            have hP : va_P D vwCl ([] ++ va_pl L M_126) H_125 := by rw [eM_126]; exact hP
            have hD : va_D A ([] ++ va_pl L M_126) := by rw [eM_126]; exact hD
            have hW : WOM cy K L M_126 := by rw [eM_126]; exact hW.up_80 hc73 ⟨_, rfl⟩
            have hF : fr K L [12, 14, 15, 32, 79, 80, 81] M M_126 := by rw [eM_126]; exact hF.up hc73 (by decide)
            have hG : fG K L [8, 14] M M_126 := by rw [eM_126]; exact hG.arr hc73 (by decide)
            have hM_127 : M_126 v73 = .inl (cy 14, 120, .inl (upd f74 ((nI v3w4) : Int32).toNatClampNeg f_124)) := by rw [eM_126]; exact va_up_self _ _ _
            have hM_128 : M_126 v110 = .inl (cy 14, 120, .inl (f_122)) := by rw [eM_126, va_up_ne _ _ (hc110.neT hc73 (by decide))]; exact hM_119
            have hM_129 : M_126 k1 = .inr (12, fs9) := by rw [eM_126, va_up_ne _ _ (ik1.neT hc73 (by decide))]; exact hM_120
            obtain ⟨f_130, ef_130⟩ : ∃ f : Nat → Int32, f = upd f74 ((nI v3w4) : Int32).toNatClampNeg f_124 := ⟨_, rfl⟩
            rw [← ef_130] at hM_127
            clear ef_130
            refine lv_aload_n hx hb dX13_settled_88 rfl (lv_at hl 2 rfl) ?_
            obtain ⟨v131, hv131, hc131⟩ : ∃ v : Nat, fs9[40]? = some (.ref v : Value) ∧ isk K L v 81 120 := hl9 40 (by decide)
            refine pg_getN (D := D) (ci := 12) (v := .ref v131) (C := RX12) (T := TX12) (N := 51) hx hb hg inG12 hown hK hP ik1.1 hM_129 rfl 40 (by decide) (hN.use (Cond.fieldLinkNest RX13 202 RX12 "moveSum" "[I" RX13) 49 rfl rfl) (fun _ h9 => h9) hv131 dX13_settled_89 ?_
            refine lv_iload_n hx hb dX13_settled_92 rfl (lv_at hl 1 rfl) ?_
            refine lv_aload_n hx hb dX13_settled_93 rfl (lv_at hl 2 rfl) ?_
            refine pg_getN (D := D) (ci := 12) (v := .ref v131) (C := RX12) (T := TX12) (N := 51) hx hb hg inG12 hown hK hP ik1.1 hM_129 rfl 40 (by decide) (hN.use (Cond.fieldLinkNest RX13 202 RX12 "moveSum" "[I" RX13) 49 rfl rfl) (fun _ h9 => h9) hv131 dX13_settled_94 ?_
            refine lv_iload hx hb dX13_settled_97 (lv_at hl 0 rfl) ?_
            obtain ⟨f132, hM132⟩ := hW.open_81 hc131
            refine pg_iald hx hb hK hP hc131.1 0 hM132 rfl (inbN v4w4 120 (by omega) (by omega)) dX13_settled_99 ?_
            refine lv_topi (fun f_133 ef_133 => ?_)
            refine pg_iast hx hb hK hP hD hS hc131.1 0 hM132 rfl (inbN v3w4 120 (by omega) (by omega)) dX13_settled_100 (fun H_134 locs hP hD hS => ?_)
            obtain ⟨M_135, eM_135⟩ : ∃ M1 : Hp, M1 = va_up M_126 v131 (.inl (cy 14, 120, .inl (upd f132 ((nI v3w4) : Int32).toNatClampNeg f_133))) := ⟨_, rfl⟩
            have hP : va_P D vwCl ([] ++ va_pl L M_135) H_134 := by rw [eM_135]; exact hP
            have hD : va_D A ([] ++ va_pl L M_135) := by rw [eM_135]; exact hD
            have hW : WOM cy K L M_135 := by rw [eM_135]; exact hW.up_81 hc131 ⟨_, rfl⟩
            have hF : fr K L [12, 14, 15, 32, 79, 80, 81] M M_135 := by rw [eM_135]; exact hF.up hc131 (by decide)
            have hG : fG K L [8, 14] M M_135 := by rw [eM_135]; exact hG.arr hc131 (by decide)
            have hM_136 : M_135 v131 = .inl (cy 14, 120, .inl (upd f132 ((nI v3w4) : Int32).toNatClampNeg f_133)) := by rw [eM_135]; exact va_up_self _ _ _
            have hM_137 : M_135 v73 = .inl (cy 14, 120, .inl (f_130)) := by rw [eM_135, va_up_ne _ _ (hc73.neT hc131 (by decide))]; exact hM_127
            have hM_138 : M_135 v110 = .inl (cy 14, 120, .inl (f_122)) := by rw [eM_135, va_up_ne _ _ (hc110.neT hc131 (by decide))]; exact hM_128
            have hM_139 : M_135 k1 = .inr (12, fs9) := by rw [eM_135, va_up_ne _ _ (ik1.neT hc131 (by decide))]; exact hM_129
            obtain ⟨f_140, ef_140⟩ : ∃ f : Nat → Int32, f = upd f132 ((nI v3w4) : Int32).toNatClampNeg f_133 := ⟨_, rfl⟩
            rw [← ef_140] at hM_136
            clear ef_140
            refine lv_iinc (v := (nI (v3w4 + 1))) (lv' := [(3, .int (nI (v3w4 + 1))), (4, .int (nI v4w4)), (0, .ref k1), (1, .int k2), (2, .int k3)]) hx hb dX13_settled_101 hl (k := 1) rfl (nI_1 v3w4) (by decide) rfl (fun ls hl => ?_)
            refine lv_iinc (v := (nI (v4w4 + 1))) (lv' := [(4, .int (nI (v4w4 + 1))), (3, .int (nI (v3w4 + 1))), (0, .ref k1), (1, .int k2), (2, .int k3)]) hx hb dX13_settled_104 hl (k := 1) rfl (nI_1 v4w4) (by decide) rfl (fun ls hl => ?_)
            refine lv_goto (tgt := 5) hx hb dX13_settled_107 (by decide) ?_
            exact ih_2 (v3w4 + 1) (v4w4 + 1) M_135 H_134 _ _ (by omega) (by omega) (by omega) hW hF hG hP hD hS (lv_sub hl [0, 1, 2, 3, 4] rfl)
          · have hz := rfl (a := 0)
            refine lv_aload_n hx hb dX13_settled_36 rfl (lv_at hl 2 rfl) ?_
            obtain ⟨v141, hv141, hc141⟩ : ∃ v : Nat, fs9[27]? = some (.ref v : Value) ∧ isk K L v 15 24 := hl9 27 (by decide)
            refine pg_getN (D := D) (ci := 12) (v := .ref v141) (C := RX12) (T := TX12) (N := 51) hx hb hg inG12 hown hK hP ik1.1 hM9 rfl 27 (by decide) (hN.use (Cond.fieldLinkNest RX13 307 RX12 "credit" "[J" RX13) 36 rfl rfl) (fun _ h9 => h9) hv141 dX13_settled_37 ?_
            refine lv_aload_n hx hb dX13_settled_40 rfl (lv_at hl 2 rfl) ?_
            obtain ⟨v142, hv142, hc142⟩ : ∃ v : Nat, fs9[38]? = some (.ref v : Value) ∧ isk K L v 79 120 := hl9 38 (by decide)
            refine pg_getN (D := D) (ci := 12) (v := .ref v142) (C := RX12) (T := TX12) (N := 51) hx hb hg inG12 hown hK hP ik1.1 hM9 rfl 38 (by decide) (hN.use (Cond.fieldLinkNest RX13 196 RX12 "moveOf" "[I" RX13) 47 rfl rfl) (fun _ h9 => h9) hv142 dX13_settled_41 ?_
            refine lv_iload hx hb dX13_settled_44 (lv_at hl 0 rfl) ?_
            obtain ⟨f143, hM143, hf143⟩ := hW.open_79 hc142
            have hi_144 : vp_in (nI v4w4) 120 := (inbN v4w4 120 (by omega) (by omega))
            refine pg_iald hx hb hK hP hc142.1 0 hM143 rfl hi_144 dX13_settled_46 ?_
            have hp_145 := hf143 _ (vp_lt hi_144)
            obtain ⟨c_146, hc_147, ec_148⟩ := hp_145
            rw [ec_148]
            refine lv_dup2_11 hx hb dX13_settled_47 rfl rfl ?_
            obtain ⟨f149, hM149⟩ := hW.open_15 hc141
            refine pg_lald hx hb hK hP hc141.1 1 hM149 rfl (inbN c_146 24 (by omega) (by omega)) dX13_settled_48 ?_
            refine lv_topl (fun f_150 ef_150 => ?_)
            refine lv_aload_n hx hb dX13_settled_49 rfl (lv_at hl 2 rfl) ?_
            obtain ⟨v151, hv151, hc151⟩ : ∃ v : Nat, fs9[40]? = some (.ref v : Value) ∧ isk K L v 81 120 := hl9 40 (by decide)
            refine pg_getN (D := D) (ci := 12) (v := .ref v151) (C := RX12) (T := TX12) (N := 51) hx hb hg inG12 hown hK hP ik1.1 hM9 rfl 40 (by decide) (hN.use (Cond.fieldLinkNest RX13 202 RX12 "moveSum" "[I" RX13) 49 rfl rfl) (fun _ h9 => h9) hv151 dX13_settled_50 ?_
            refine lv_iload hx hb dX13_settled_53 (lv_at hl 0 rfl) ?_
            obtain ⟨f152, hM152⟩ := hW.open_81 hc151
            refine pg_iald hx hb hK hP hc151.1 0 hM152 rfl (inbN v4w4 120 (by omega) (by omega)) dX13_settled_55 ?_
            refine lv_topi (fun f_153 ef_153 => ?_)
            refine lv_i2l hx hb dX13_settled_56 rfl ?_
            refine lv_topl (fun f_154 ef_154 => ?_)
            refine lv_ladd hx hb dX13_settled_57 ?_
            refine lv_topl (fun f_155 ef_155 => ?_)
            refine pg_last hx hb hK hP hD hS hc141.1 1 hM149 rfl (inbN c_146 24 (by omega) (by omega)) dX13_settled_58 (fun H_156 locs hP hD hS => ?_)
            obtain ⟨M_157, eM_157⟩ : ∃ M1 : Hp, M1 = va_up M_7 v141 (.inl (cy 15, 24, .inr (.inl (vp_updL f149 ((nI c_146) : Int32).toNatClampNeg f_155)))) := ⟨_, rfl⟩
            have hP : va_P D vwCl ([] ++ va_pl L M_157) H_156 := by rw [eM_157]; exact hP
            have hD : va_D A ([] ++ va_pl L M_157) := by rw [eM_157]; exact hD
            have hW : WOM cy K L M_157 := by rw [eM_157]; exact hW.up_15 hc141 ⟨_, rfl⟩
            have hF : fr K L [12, 14, 15, 32, 79, 80, 81] M M_157 := by rw [eM_157]; exact hF.up hc141 (by decide)
            have hG : fG K L [8, 14] M M_157 := by rw [eM_157]; exact hG.arr hc141 (by decide)
            have hM_158 : M_157 v141 = .inl (cy 15, 24, .inr (.inl (vp_updL f149 ((nI c_146) : Int32).toNatClampNeg f_155))) := by rw [eM_157]; exact va_up_self _ _ _
            have hM_159 : M_157 k1 = .inr (12, fs9) := by rw [eM_157, va_up_ne _ _ (ik1.neT hc141 (by decide))]; exact hM9
            have hM_160 : M_157 v73 = .inl (cy 14, 120, .inl (f74)) := by rw [eM_157, va_up_ne _ _ (hc73.neT hc141 (by decide))]; exact hM74
            have hM_161 : M_157 v142 = .inl (cy 14, 120, .inl (f143)) := by rw [eM_157, va_up_ne _ _ (hc142.neT hc141 (by decide))]; exact hM143
            have hM_162 : M_157 v151 = .inl (cy 14, 120, .inl (f152)) := by rw [eM_157, va_up_ne _ _ (hc151.neT hc141 (by decide))]; exact hM152
            obtain ⟨f_163, ef_163⟩ : ∃ f : Nat → Int64, f = vp_updL f149 ((nI c_146) : Int32).toNatClampNeg f_155 := ⟨_, rfl⟩
            rw [← ef_163] at hM_158
            clear ef_163
            refine lv_goto (tgt := 104) hx hb dX13_settled_59 (by decide) ?_
            refine lv_iinc (v := (nI (v4w4 + 1))) (lv' := [(4, .int (nI (v4w4 + 1))), (3, .int (nI v3w4)), (0, .ref k1), (1, .int k2), (2, .int k3)]) hx hb dX13_settled_104 hl (k := 0) rfl (nI_1 v4w4) (by decide) rfl (fun ls hl => ?_)
            refine lv_goto (tgt := 5) hx hb dX13_settled_107 (by decide) ?_
            exact ih_2 v3w4 (v4w4 + 1) M_157 H_156 _ _ (by omega) (by omega) (by omega) hW hF hG hP hD hS (lv_sub hl [0, 1, 2, 3, 4] rfl)
  exact key_1 (120 - 0 + 1) 0 0 M s.heap _ _ (by omega) (by omega) (by omega) hW hF hG hP hD hS (lv_sub hl [0, 1, 2, 3, 4] rfl)
