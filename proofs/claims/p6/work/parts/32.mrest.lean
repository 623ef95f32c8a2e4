theorem dX13_partner_0 : decode cX13_partner 0 = .ok (.aload_n 0, 1) := by decide +kernel
theorem dX13_partner_1 : decode cX13_partner 1 = .ok (.iconst 0, 1) := by decide +kernel
theorem dX13_partner_2 : decode cX13_partner 2 = .ok (.putfield 55, 3) := by decide +kernel
theorem dX13_partner_5 : decode cX13_partner 5 = .ok (.iload_n 1, 1) := by decide +kernel
theorem dX13_partner_6 : decode cX13_partner 6 = .ok (.iconst 1, 1) := by decide +kernel
theorem dX13_partner_7 : decode cX13_partner 7 = .ok (.if_icmp .eq 13, 3) := by decide +kernel
theorem dX13_partner_10 : decode cX13_partner 10 = .ok (.iload_n 1, 1) := by decide +kernel
theorem dX13_partner_11 : decode cX13_partner 11 = .ok (.iconst 2, 1) := by decide +kernel
theorem dX13_partner_12 : decode cX13_partner 12 = .ok (.if_icmp .eq 8, 3) := by decide +kernel
theorem dX13_partner_15 : decode cX13_partner 15 = .ok (.iload_n 1, 1) := by decide +kernel
theorem dX13_partner_16 : decode cX13_partner 16 = .ok (.iconst 4, 1) := by decide +kernel
theorem dX13_partner_17 : decode cX13_partner 17 = .ok (.if_icmp .ne 7, 3) := by decide +kernel
theorem dX13_partner_20 : decode cX13_partner 20 = .ok (.iconst 1, 1) := by decide +kernel
theorem dX13_partner_21 : decode cX13_partner 21 = .ok (.goto 4, 3) := by decide +kernel
theorem dX13_partner_24 : decode cX13_partner 24 = .ok (.iconst 0, 1) := by decide +kernel
theorem dX13_partner_25 : decode cX13_partner 25 = .ok (.istore_n 3, 1) := by decide +kernel
theorem dX13_partner_26 : decode cX13_partner 26 = .ok (.iload_n 1, 1) := by decide +kernel
theorem dX13_partner_27 : decode cX13_partner 27 = .ok (.ifCond .lt 22, 3) := by decide +kernel
theorem dX13_partner_30 : decode cX13_partner 30 = .ok (.iload_n 1, 1) := by decide +kernel
theorem dX13_partner_31 : decode cX13_partner 31 = .ok (.iconst 5, 1) := by decide +kernel
theorem dX13_partner_32 : decode cX13_partner 32 = .ok (.if_icmp .gt 17, 3) := by decide +kernel
theorem dX13_partner_35 : decode cX13_partner 35 = .ok (.iload_n 3, 1) := by decide +kernel
theorem dX13_partner_36 : decode cX13_partner 36 = .ok (.ifCond .eq 19, 3) := by decide +kernel
theorem dX13_partner_39 : decode cX13_partner 39 = .ok (.iload_n 2, 1) := by decide +kernel
theorem dX13_partner_40 : decode cX13_partner 40 = .ok (.ifCond .lt 9, 3) := by decide +kernel
theorem dX13_partner_43 : decode cX13_partner 43 = .ok (.iload_n 2, 1) := by decide +kernel
theorem dX13_partner_44 : decode cX13_partner 44 = .ok (.ldc 71, 2) := by decide +kernel
theorem dX13_partner_46 : decode cX13_partner 46 = .ok (.if_icmp .le 9, 3) := by decide +kernel
theorem dX13_partner_49 : decode cX13_partner 49 = .ok (.aload_n 0, 1) := by decide +kernel
theorem dX13_partner_50 : decode cX13_partner 50 = .ok (.iconst 2, 1) := by decide +kernel
theorem dX13_partner_51 : decode cX13_partner 51 = .ok (.invokevirtual 73, 3) := by decide +kernel
theorem dX13_partner_54 : decode cX13_partner 54 = .ok (.ireturn, 1) := by decide +kernel
theorem dX13_partner_55 : decode cX13_partner 55 = .ok (.iload_n 1, 1) := by decide +kernel
theorem dX13_partner_56 : decode cX13_partner 56 = .ok (.iconst 5, 1) := by decide +kernel
theorem dX13_partner_57 : decode cX13_partner 57 = .ok (.if_icmp .ne 17, 3) := by decide +kernel
theorem dX13_partner_60 : decode cX13_partner 60 = .ok (.aload_n 0, 1) := by decide +kernel
theorem dX13_partner_61 : decode cX13_partner 61 = .ok (.iload_n 2, 1) := by decide +kernel
theorem dX13_partner_62 : decode cX13_partner 62 = .ok (.invokevirtual 64, 3) := by decide +kernel
theorem dX13_partner_65 : decode cX13_partner 65 = .ok (.ifCond .ne 9, 3) := by decide +kernel
theorem dX13_partner_68 : decode cX13_partner 68 = .ok (.aload_n 0, 1) := by decide +kernel
theorem dX13_partner_69 : decode cX13_partner 69 = .ok (.iconst 1, 1) := by decide +kernel
theorem dX13_partner_70 : decode cX13_partner 70 = .ok (.invokevirtual 73, 3) := by decide +kernel
theorem dX13_partner_73 : decode cX13_partner 73 = .ok (.ireturn, 1) := by decide +kernel
theorem dX13_partner_74 : decode cX13_partner 74 = .ok (.aload_n 0, 1) := by decide +kernel
theorem dX13_partner_75 : decode cX13_partner 75 = .ok (.getfield 89, 3) := by decide +kernel
theorem dX13_partner_78 : decode cX13_partner 78 = .ok (.bipush 40, 2) := by decide +kernel
theorem dX13_partner_80 : decode cX13_partner 80 = .ok (.if_icmp .ne 10, 3) := by decide +kernel
theorem dX13_partner_83 : decode cX13_partner 83 = .ok (.aload_n 0, 1) := by decide +kernel
theorem dX13_partner_84 : decode cX13_partner 84 = .ok (.bipush 9, 2) := by decide +kernel
theorem dX13_partner_86 : decode cX13_partner 86 = .ok (.invokevirtual 73, 3) := by decide +kernel
theorem dX13_partner_89 : decode cX13_partner 89 = .ok (.ireturn, 1) := by decide +kernel
theorem dX13_partner_90 : decode cX13_partner 90 = .ok (.aload_n 0, 1) := by decide +kernel
theorem dX13_partner_91 : decode cX13_partner 91 = .ok (.getfield 20, 3) := by decide +kernel
theorem dX13_partner_94 : decode cX13_partner 94 = .ok (.aload_n 0, 1) := by decide +kernel
theorem dX13_partner_95 : decode cX13_partner 95 = .ok (.getfield 89, 3) := by decide +kernel
theorem dX13_partner_98 : decode cX13_partner 98 = .ok (.iload_n 1, 1) := by decide +kernel
theorem dX13_partner_99 : decode cX13_partner 99 = .ok (.iastore, 1) := by decide +kernel
theorem dX13_partner_100 : decode cX13_partner 100 = .ok (.aload_n 0, 1) := by decide +kernel
theorem dX13_partner_101 : decode cX13_partner 101 = .ok (.getfield 24, 3) := by decide +kernel
theorem dX13_partner_104 : decode cX13_partner 104 = .ok (.aload_n 0, 1) := by decide +kernel
theorem dX13_partner_105 : decode cX13_partner 105 = .ok (.getfield 89, 3) := by decide +kernel
theorem dX13_partner_108 : decode cX13_partner 108 = .ok (.iload_n 2, 1) := by decide +kernel
theorem dX13_partner_109 : decode cX13_partner 109 = .ok (.iastore, 1) := by decide +kernel
theorem dX13_partner_110 : decode cX13_partner 110 = .ok (.aload_n 0, 1) := by decide +kernel
theorem dX13_partner_111 : decode cX13_partner 111 = .ok (.dup, 1) := by decide +kernel
theorem dX13_partner_112 : decode cX13_partner 112 = .ok (.getfield 89, 3) := by decide +kernel
theorem dX13_partner_115 : decode cX13_partner 115 = .ok (.iconst 1, 1) := by decide +kernel
theorem dX13_partner_116 : decode cX13_partner 116 = .ok (.iadd, 1) := by decide +kernel
theorem dX13_partner_117 : decode cX13_partner 117 = .ok (.putfield 89, 3) := by decide +kernel
theorem dX13_partner_120 : decode cX13_partner 120 = .ok (.aload_n 0, 1) := by decide +kernel
theorem dX13_partner_121 : decode cX13_partner 121 = .ok (.aload_n 0, 1) := by decide +kernel
theorem dX13_partner_122 : decode cX13_partner 122 = .ok (.getfield 89, 3) := by decide +kernel
theorem dX13_partner_125 : decode cX13_partner 125 = .ok (.iconst 1, 1) := by decide +kernel
theorem dX13_partner_126 : decode cX13_partner 126 = .ok (.isub, 1) := by decide +kernel
theorem dX13_partner_127 : decode cX13_partner 127 = .ok (.invokevirtual 86, 3) := by decide +kernel
theorem dX13_partner_130 : decode cX13_partner 130 = .ok (.ireturn, 1) := by decide +kernel
theorem dX13_rule_0 : decode cX13_rule 0 = .ok (.aload_n 0, 1) := by decide +kernel
theorem dX13_rule_1 : decode cX13_rule 1 = .ok (.iconst 0, 1) := by decide +kernel
theorem dX13_rule_2 : decode cX13_rule 2 = .ok (.putfield 55, 3) := by decide +kernel
theorem dX13_rule_5 : decode cX13_rule 5 = .ok (.aload_n 0, 1) := by decide +kernel
theorem dX13_rule_6 : decode cX13_rule 6 = .ok (.iload_n 1, 1) := by decide +kernel
theorem dX13_rule_7 : decode cX13_rule 7 = .ok (.invokevirtual 64, 3) := by decide +kernel
theorem dX13_rule_10 : decode cX13_rule 10 = .ok (.ifCond .ne 9, 3) := by decide +kernel
theorem dX13_rule_13 : decode cX13_rule 13 = .ok (.aload_n 0, 1) := by decide +kernel
theorem dX13_rule_14 : decode cX13_rule 14 = .ok (.iconst 1, 1) := by decide +kernel
theorem dX13_rule_15 : decode cX13_rule 15 = .ok (.invokevirtual 73, 3) := by decide +kernel
theorem dX13_rule_18 : decode cX13_rule 18 = .ok (.ireturn, 1) := by decide +kernel
theorem dX13_rule_19 : decode cX13_rule 19 = .ok (.aload_n 0, 1) := by decide +kernel
theorem dX13_rule_20 : decode cX13_rule 20 = .ok (.getfield 12, 3) := by decide +kernel
theorem dX13_rule_23 : decode cX13_rule 23 = .ok (.iload_n 1, 1) := by decide +kernel
theorem dX13_rule_24 : decode cX13_rule 24 = .ok (.aaload, 1) := by decide +kernel
theorem dX13_rule_25 : decode cX13_rule 25 = .ok (.astore_n 3, 1) := by decide +kernel
theorem dX13_rule_26 : decode cX13_rule 26 = .ok (.aload_n 3, 1) := by decide +kernel
theorem dX13_rule_27 : decode cX13_rule 27 = .ok (.iload_n 2, 1) := by decide +kernel
theorem dX13_rule_28 : decode cX13_rule 28 = .ok (.invokevirtual 131, 3) := by decide +kernel
theorem dX13_rule_31 : decode cX13_rule 31 = .ok (.ifCond .eq 40, 3) := by decide +kernel
theorem dX13_rule_34 : decode cX13_rule 34 = .ok (.aload_n 3, 1) := by decide +kernel
theorem dX13_rule_35 : decode cX13_rule 35 = .ok (.getfield 142, 3) := by decide +kernel
theorem dX13_rule_38 : decode cX13_rule 38 = .ok (.ifCond .ne 14, 3) := by decide +kernel
theorem dX13_rule_41 : decode cX13_rule 41 = .ok (.iload_n 2, 1) := by decide +kernel
theorem dX13_rule_42 : decode cX13_rule 42 = .ok (.aload_n 3, 1) := by decide +kernel
theorem dX13_rule_43 : decode cX13_rule 43 = .ok (.getfield 77, 3) := by decide +kernel
theorem dX13_rule_46 : decode cX13_rule 46 = .ok (.if_icmp .ne 25, 3) := by decide +kernel
theorem dX13_rule_49 : decode cX13_rule 49 = .ok (.goto 18, 3) := by decide +kernel
theorem dX13_rule_52 : decode cX13_rule 52 = .ok (.iload_n 2, 1) := by decide +kernel
theorem dX13_rule_53 : decode cX13_rule 53 = .ok (.aload_n 3, 1) := by decide +kernel
theorem dX13_rule_54 : decode cX13_rule 54 = .ok (.getfield 145, 3) := by decide +kernel
theorem dX13_rule_57 : decode cX13_rule 57 = .ok (.aload_n 3, 1) := by decide +kernel
theorem dX13_rule_58 : decode cX13_rule 58 = .ok (.getfield 142, 3) := by decide +kernel
theorem dX13_rule_61 : decode cX13_rule 61 = .ok (.iconst 1, 1) := by decide +kernel
theorem dX13_rule_62 : decode cX13_rule 62 = .ok (.isub, 1) := by decide +kernel
theorem dX13_rule_63 : decode cX13_rule 63 = .ok (.iaload, 1) := by decide +kernel
theorem dX13_rule_64 : decode cX13_rule 64 = .ok (.if_icmp .le 7, 3) := by decide +kernel
theorem dX13_rule_67 : decode cX13_rule 67 = .ok (.iconst 1, 1) := by decide +kernel
theorem dX13_rule_68 : decode cX13_rule 68 = .ok (.goto 4, 3) := by decide +kernel
theorem dX13_rule_71 : decode cX13_rule 71 = .ok (.iconst 0, 1) := by decide +kernel
theorem dX13_rule_72 : decode cX13_rule 72 = .ok (.istore 4, 2) := by decide +kernel
theorem dX13_rule_74 : decode cX13_rule 74 = .ok (.iload 4, 2) := by decide +kernel
theorem dX13_rule_76 : decode cX13_rule 76 = .ok (.ifCond .ne 9, 3) := by decide +kernel
theorem dX13_rule_79 : decode cX13_rule 79 = .ok (.aload_n 0, 1) := by decide +kernel
theorem dX13_rule_80 : decode cX13_rule 80 = .ok (.iconst 3, 1) := by decide +kernel
theorem dX13_rule_81 : decode cX13_rule 81 = .ok (.invokevirtual 73, 3) := by decide +kernel
theorem dX13_rule_84 : decode cX13_rule 84 = .ok (.ireturn, 1) := by decide +kernel
theorem dX13_rule_85 : decode cX13_rule 85 = .ok (.aload_n 3, 1) := by decide +kernel
theorem dX13_rule_86 : decode cX13_rule 86 = .ok (.getfield 142, 3) := by decide +kernel
theorem dX13_rule_89 : decode cX13_rule 89 = .ok (.bipush 16, 2) := by decide +kernel
theorem dX13_rule_91 : decode cX13_rule 91 = .ok (.if_icmp .ne 10, 3) := by decide +kernel
theorem dX13_rule_94 : decode cX13_rule 94 = .ok (.aload_n 0, 1) := by decide +kernel
theorem dX13_rule_95 : decode cX13_rule 95 = .ok (.bipush 9, 2) := by decide +kernel
theorem dX13_rule_97 : decode cX13_rule 97 = .ok (.invokevirtual 73, 3) := by decide +kernel
theorem dX13_rule_100 : decode cX13_rule 100 = .ok (.ireturn, 1) := by decide +kernel
theorem dX13_rule_101 : decode cX13_rule 101 = .ok (.bipush 24, 2) := by decide +kernel
theorem dX13_rule_103 : decode cX13_rule 103 = .ok (.istore 5, 2) := by decide +kernel
theorem dX13_rule_105 : decode cX13_rule 105 = .ok (.iconst 0, 1) := by decide +kernel
theorem dX13_rule_106 : decode cX13_rule 106 = .ok (.istore 6, 2) := by decide +kernel
theorem dX13_rule_108 : decode cX13_rule 108 = .ok (.iload 6, 2) := by decide +kernel
theorem dX13_rule_110 : decode cX13_rule 110 = .ok (.iload 5, 2) := by decide +kernel
theorem dX13_rule_112 : decode cX13_rule 112 = .ok (.if_icmp .ge 52, 3) := by decide +kernel
theorem dX13_rule_115 : decode cX13_rule 115 = .ok (.aload_n 3, 1) := by decide +kernel
theorem dX13_rule_116 : decode cX13_rule 116 = .ok (.getfield 148, 3) := by decide +kernel
theorem dX13_rule_119 : decode cX13_rule 119 = .ok (.iload 5, 2) := by decide +kernel
theorem dX13_rule_121 : decode cX13_rule 121 = .ok (.aload_n 3, 1) := by decide +kernel
theorem dX13_rule_122 : decode cX13_rule 122 = .ok (.getfield 142, 3) := by decide +kernel
theorem dX13_rule_125 : decode cX13_rule 125 = .ok (.imul, 1) := by decide +kernel
theorem dX13_rule_126 : decode cX13_rule 126 = .ok (.iload 6, 2) := by decide +kernel
theorem dX13_rule_128 : decode cX13_rule 128 = .ok (.iadd, 1) := by decide +kernel
theorem dX13_rule_129 : decode cX13_rule 129 = .ok (.aload_n 3, 1) := by decide +kernel
theorem dX13_rule_130 : decode cX13_rule 130 = .ok (.getfield 142, 3) := by decide +kernel
theorem dX13_rule_133 : decode cX13_rule 133 = .ok (.ifCond .ne 7, 3) := by decide +kernel
theorem dX13_rule_136 : decode cX13_rule 136 = .ok (.iconst 0, 1) := by decide +kernel
theorem dX13_rule_137 : decode cX13_rule 137 = .ok (.goto 20, 3) := by decide +kernel
theorem dX13_rule_140 : decode cX13_rule 140 = .ok (.aload_n 3, 1) := by decide +kernel
theorem dX13_rule_141 : decode cX13_rule 141 = .ok (.getfield 148, 3) := by decide +kernel
theorem dX13_rule_144 : decode cX13_rule 144 = .ok (.iload 5, 2) := by decide +kernel
theorem dX13_rule_146 : decode cX13_rule 146 = .ok (.aload_n 3, 1) := by decide +kernel
theorem dX13_rule_147 : decode cX13_rule 147 = .ok (.getfield 142, 3) := by decide +kernel
theorem dX13_rule_150 : decode cX13_rule 150 = .ok (.iconst 1, 1) := by decide +kernel
theorem dX13_rule_151 : decode cX13_rule 151 = .ok (.isub, 1) := by decide +kernel
theorem dX13_rule_152 : decode cX13_rule 152 = .ok (.imul, 1) := by decide +kernel
theorem dX13_rule_153 : decode cX13_rule 153 = .ok (.iload 6, 2) := by decide +kernel
theorem dX13_rule_155 : decode cX13_rule 155 = .ok (.iadd, 1) := by decide +kernel
theorem dX13_rule_156 : decode cX13_rule 156 = .ok (.iaload, 1) := by decide +kernel
theorem dX13_rule_157 : decode cX13_rule 157 = .ok (.iastore, 1) := by decide +kernel
theorem dX13_rule_158 : decode cX13_rule 158 = .ok (.iinc 6 1, 3) := by decide +kernel
theorem dX13_rule_161 : decode cX13_rule 161 = .ok (.goto (-53), 3) := by decide +kernel
theorem dX13_rule_164 : decode cX13_rule 164 = .ok (.aload_n 3, 1) := by decide +kernel
theorem dX13_rule_165 : decode cX13_rule 165 = .ok (.getfield 151, 3) := by decide +kernel
theorem dX13_rule_168 : decode cX13_rule 168 = .ok (.aload_n 3, 1) := by decide +kernel
theorem dX13_rule_169 : decode cX13_rule 169 = .ok (.getfield 142, 3) := by decide +kernel
theorem dX13_rule_172 : decode cX13_rule 172 = .ok (.aload_n 3, 1) := by decide +kernel
theorem dX13_rule_173 : decode cX13_rule 173 = .ok (.getfield 142, 3) := by decide +kernel
theorem dX13_rule_176 : decode cX13_rule 176 = .ok (.ifCond .ne 7, 3) := by decide +kernel
theorem dX13_rule_179 : decode cX13_rule 179 = .ok (.iconst 0, 1) := by decide +kernel
theorem dX13_rule_180 : decode cX13_rule 180 = .ok (.goto 14, 3) := by decide +kernel
theorem dX13_rule_183 : decode cX13_rule 183 = .ok (.aload_n 3, 1) := by decide +kernel
theorem dX13_rule_184 : decode cX13_rule 184 = .ok (.getfield 151, 3) := by decide +kernel
theorem dX13_rule_187 : decode cX13_rule 187 = .ok (.aload_n 3, 1) := by decide +kernel
theorem dX13_rule_188 : decode cX13_rule 188 = .ok (.getfield 142, 3) := by decide +kernel
theorem dX13_rule_191 : decode cX13_rule 191 = .ok (.iconst 1, 1) := by decide +kernel
theorem dX13_rule_192 : decode cX13_rule 192 = .ok (.isub, 1) := by decide +kernel
theorem dX13_rule_193 : decode cX13_rule 193 = .ok (.iaload, 1) := by decide +kernel
theorem dX13_rule_194 : decode cX13_rule 194 = .ok (.iastore, 1) := by decide +kernel
theorem dX13_rule_195 : decode cX13_rule 195 = .ok (.aload_n 3, 1) := by decide +kernel
theorem dX13_rule_196 : decode cX13_rule 196 = .ok (.getfield 145, 3) := by decide +kernel
theorem dX13_rule_199 : decode cX13_rule 199 = .ok (.aload_n 3, 1) := by decide +kernel
theorem dX13_rule_200 : decode cX13_rule 200 = .ok (.getfield 142, 3) := by decide +kernel
theorem dX13_rule_203 : decode cX13_rule 203 = .ok (.iload_n 2, 1) := by decide +kernel
theorem dX13_rule_204 : decode cX13_rule 204 = .ok (.iastore, 1) := by decide +kernel
theorem dX13_rule_205 : decode cX13_rule 205 = .ok (.aload_n 3, 1) := by decide +kernel
theorem dX13_rule_206 : decode cX13_rule 206 = .ok (.dup, 1) := by decide +kernel
theorem dX13_rule_207 : decode cX13_rule 207 = .ok (.getfield 142, 3) := by decide +kernel
theorem dX13_rule_210 : decode cX13_rule 210 = .ok (.iconst 1, 1) := by decide +kernel
theorem dX13_rule_211 : decode cX13_rule 211 = .ok (.iadd, 1) := by decide +kernel
theorem dX13_rule_212 : decode cX13_rule 212 = .ok (.putfield 142, 3) := by decide +kernel
theorem dX13_rule_215 : decode cX13_rule 215 = .ok (.aload_n 0, 1) := by decide +kernel
theorem dX13_rule_216 : decode cX13_rule 216 = .ok (.aload_n 3, 1) := by decide +kernel
theorem dX13_rule_217 : decode cX13_rule 217 = .ok (.getfield 142, 3) := by decide +kernel
theorem dX13_rule_220 : decode cX13_rule 220 = .ok (.invokevirtual 86, 3) := by decide +kernel
theorem dX13_rule_223 : decode cX13_rule 223 = .ok (.ireturn, 1) := by decide +kernel
theorem dX13_settled_0 : decode cX13_settled 0 = .ok (.iconst 0, 1) := by decide +kernel
theorem dX13_settled_1 : decode cX13_settled 1 = .ok (.istore_n 3, 1) := by decide +kernel
theorem dX13_settled_2 : decode cX13_settled 2 = .ok (.iconst 0, 1) := by decide +kernel
theorem dX13_settled_3 : decode cX13_settled 3 = .ok (.istore 4, 2) := by decide +kernel
theorem dX13_settled_5 : decode cX13_settled 5 = .ok (.iload 4, 2) := by decide +kernel
theorem dX13_settled_7 : decode cX13_settled 7 = .ok (.aload_n 0, 1) := by decide +kernel
theorem dX13_settled_8 : decode cX13_settled 8 = .ok (.getfield 193, 3) := by decide +kernel
theorem dX13_settled_11 : decode cX13_settled 11 = .ok (.if_icmp .ge 99, 3) := by decide +kernel
theorem dX13_settled_14 : decode cX13_settled 14 = .ok (.aload_n 0, 1) := by decide +kernel
theorem dX13_settled_15 : decode cX13_settled 15 = .ok (.getfield 199, 3) := by decide +kernel
theorem dX13_settled_18 : decode cX13_settled 18 = .ok (.iload 4, 2) := by decide +kernel
theorem dX13_settled_20 : decode cX13_settled 20 = .ok (.iaload, 1) := by decide +kernel
theorem dX13_settled_21 : decode cX13_settled 21 = .ok (.iload_n 1, 1) := by decide +kernel
theorem dX13_settled_22 : decode cX13_settled 22 = .ok (.if_icmp .lt 40, 3) := by decide +kernel
theorem dX13_settled_25 : decode cX13_settled 25 = .ok (.aload_n 0, 1) := by decide +kernel
theorem dX13_settled_26 : decode cX13_settled 26 = .ok (.getfield 199, 3) := by decide +kernel
theorem dX13_settled_29 : decode cX13_settled 29 = .ok (.iload 4, 2) := by decide +kernel
theorem dX13_settled_31 : decode cX13_settled 31 = .ok (.iaload, 1) := by decide +kernel
theorem dX13_settled_32 : decode cX13_settled 32 = .ok (.iload_n 2, 1) := by decide +kernel
theorem dX13_settled_33 : decode cX13_settled 33 = .ok (.if_icmp .gt 29, 3) := by decide +kernel
theorem dX13_settled_36 : decode cX13_settled 36 = .ok (.aload_n 0, 1) := by decide +kernel
theorem dX13_settled_37 : decode cX13_settled 37 = .ok (.getfield 307, 3) := by decide +kernel
theorem dX13_settled_40 : decode cX13_settled 40 = .ok (.aload_n 0, 1) := by decide +kernel
theorem dX13_settled_41 : decode cX13_settled 41 = .ok (.getfield 196, 3) := by decide +kernel
theorem dX13_settled_44 : decode cX13_settled 44 = .ok (.iload 4, 2) := by decide +kernel
theorem dX13_settled_46 : decode cX13_settled 46 = .ok (.iaload, 1) := by decide +kernel
theorem dX13_settled_47 : decode cX13_settled 47 = .ok (.dup2, 1) := by decide +kernel
theorem dX13_settled_48 : decode cX13_settled 48 = .ok (.laload, 1) := by decide +kernel
theorem dX13_settled_49 : decode cX13_settled 49 = .ok (.aload_n 0, 1) := by decide +kernel
theorem dX13_settled_50 : decode cX13_settled 50 = .ok (.getfield 202, 3) := by decide +kernel
theorem dX13_settled_53 : decode cX13_settled 53 = .ok (.iload 4, 2) := by decide +kernel
theorem dX13_settled_55 : decode cX13_settled 55 = .ok (.iaload, 1) := by decide +kernel
theorem dX13_settled_56 : decode cX13_settled 56 = .ok (.i2l, 1) := by decide +kernel
theorem dX13_settled_57 : decode cX13_settled 57 = .ok (.ladd, 1) := by decide +kernel
theorem dX13_settled_58 : decode cX13_settled 58 = .ok (.lastore, 1) := by decide +kernel
theorem dX13_settled_59 : decode cX13_settled 59 = .ok (.goto 45, 3) := by decide +kernel
theorem dX13_settled_62 : decode cX13_settled 62 = .ok (.aload_n 0, 1) := by decide +kernel
theorem dX13_settled_63 : decode cX13_settled 63 = .ok (.getfield 196, 3) := by decide +kernel
theorem dX13_settled_66 : decode cX13_settled 66 = .ok (.iload_n 3, 1) := by decide +kernel
theorem dX13_settled_67 : decode cX13_settled 67 = .ok (.aload_n 0, 1) := by decide +kernel
theorem dX13_settled_68 : decode cX13_settled 68 = .ok (.getfield 196, 3) := by decide +kernel
theorem dX13_settled_71 : decode cX13_settled 71 = .ok (.iload 4, 2) := by decide +kernel
theorem dX13_settled_73 : decode cX13_settled 73 = .ok (.iaload, 1) := by decide +kernel
theorem dX13_settled_74 : decode cX13_settled 74 = .ok (.iastore, 1) := by decide +kernel
theorem dX13_settled_75 : decode cX13_settled 75 = .ok (.aload_n 0, 1) := by decide +kernel
theorem dX13_settled_76 : decode cX13_settled 76 = .ok (.getfield 199, 3) := by decide +kernel
theorem dX13_settled_79 : decode cX13_settled 79 = .ok (.iload_n 3, 1) := by decide +kernel
theorem dX13_settled_80 : decode cX13_settled 80 = .ok (.aload_n 0, 1) := by decide +kernel
theorem dX13_settled_81 : decode cX13_settled 81 = .ok (.getfield 199, 3) := by decide +kernel
theorem dX13_settled_84 : decode cX13_settled 84 = .ok (.iload 4, 2) := by decide +kernel
theorem dX13_settled_86 : decode cX13_settled 86 = .ok (.iaload, 1) := by decide +kernel
theorem dX13_settled_87 : decode cX13_settled 87 = .ok (.iastore, 1) := by decide +kernel
theorem dX13_settled_88 : decode cX13_settled 88 = .ok (.aload_n 0, 1) := by decide +kernel
theorem dX13_settled_89 : decode cX13_settled 89 = .ok (.getfield 202, 3) := by decide +kernel
theorem dX13_settled_92 : decode cX13_settled 92 = .ok (.iload_n 3, 1) := by decide +kernel
theorem dX13_settled_93 : decode cX13_settled 93 = .ok (.aload_n 0, 1) := by decide +kernel
theorem dX13_settled_94 : decode cX13_settled 94 = .ok (.getfield 202, 3) := by decide +kernel
theorem dX13_settled_97 : decode cX13_settled 97 = .ok (.iload 4, 2) := by decide +kernel
theorem dX13_settled_99 : decode cX13_settled 99 = .ok (.iaload, 1) := by decide +kernel
theorem dX13_settled_100 : decode cX13_settled 100 = .ok (.iastore, 1) := by decide +kernel
theorem dX13_settled_101 : decode cX13_settled 101 = .ok (.iinc 3 1, 3) := by decide +kernel
theorem dX13_settled_104 : decode cX13_settled 104 = .ok (.iinc 4 1, 3) := by decide +kernel
theorem dX13_settled_107 : decode cX13_settled 107 = .ok (.goto (-102), 3) := by decide +kernel
theorem dX13_settled_110 : decode cX13_settled 110 = .ok (.aload_n 0, 1) := by decide +kernel
theorem dX13_settled_111 : decode cX13_settled 111 = .ok (.iload_n 3, 1) := by decide +kernel
theorem dX13_settled_112 : decode cX13_settled 112 = .ok (.putfield 193, 3) := by decide +kernel
theorem dX13_settled_115 : decode cX13_settled 115 = .ok (.iconst 0, 1) := by decide +kernel
theorem dX13_settled_116 : decode cX13_settled 116 = .ok (.istore 4, 2) := by decide +kernel
theorem dX13_settled_118 : decode cX13_settled 118 = .ok (.iload 4, 2) := by decide +kernel
theorem dX13_settled_120 : decode cX13_settled 120 = .ok (.aload_n 0, 1) := by decide +kernel
theorem dX13_settled_121 : decode cX13_settled 121 = .ok (.getfield 68, 3) := by decide +kernel
theorem dX13_settled_124 : decode cX13_settled 124 = .ok (.if_icmp .ge 26, 3) := by decide +kernel
theorem dX13_settled_127 : decode cX13_settled 127 = .ok (.aload_n 0, 1) := by decide +kernel
theorem dX13_settled_128 : decode cX13_settled 128 = .ok (.getfield 307, 3) := by decide +kernel
theorem dX13_settled_131 : decode cX13_settled 131 = .ok (.iload 4, 2) := by decide +kernel
theorem dX13_settled_133 : decode cX13_settled 133 = .ok (.dup2, 1) := by decide +kernel
theorem dX13_settled_134 : decode cX13_settled 134 = .ok (.laload, 1) := by decide +kernel
theorem dX13_settled_135 : decode cX13_settled 135 = .ok (.aload_n 0, 1) := by decide +kernel
theorem dX13_settled_136 : decode cX13_settled 136 = .ok (.getfield 259, 3) := by decide +kernel
theorem dX13_settled_139 : decode cX13_settled 139 = .ok (.iload 4, 2) := by decide +kernel
theorem dX13_settled_141 : decode cX13_settled 141 = .ok (.laload, 1) := by decide +kernel
theorem dX13_settled_142 : decode cX13_settled 142 = .ok (.ladd, 1) := by decide +kernel
theorem dX13_settled_143 : decode cX13_settled 143 = .ok (.lastore, 1) := by decide +kernel
theorem dX13_settled_144 : decode cX13_settled 144 = .ok (.iinc 4 1, 3) := by decide +kernel
theorem dX13_settled_147 : decode cX13_settled 147 = .ok (.goto (-29), 3) := by decide +kernel
theorem dX13_settled_150 : decode cX13_settled 150 = .ok (.iconst 0, 1) := by decide +kernel
theorem dX13_settled_151 : decode cX13_settled 151 = .ok (.istore 4, 2) := by decide +kernel
theorem dX13_settled_153 : decode cX13_settled 153 = .ok (.iload 4, 2) := by decide +kernel
theorem dX13_settled_155 : decode cX13_settled 155 = .ok (.aload_n 0, 1) := by decide +kernel
theorem dX13_settled_156 : decode cX13_settled 156 = .ok (.getfield 256, 3) := by decide +kernel
theorem dX13_settled_159 : decode cX13_settled 159 = .ok (.if_icmp .ge 25, 3) := by decide +kernel
theorem dX13_settled_162 : decode cX13_settled 162 = .ok (.aload_n 0, 1) := by decide +kernel
theorem dX13_settled_163 : decode cX13_settled 163 = .ok (.dup, 1) := by decide +kernel
theorem dX13_settled_164 : decode cX13_settled 164 = .ok (.getfield 364, 3) := by decide +kernel
theorem dX13_settled_167 : decode cX13_settled 167 = .ok (.aload_n 0, 1) := by decide +kernel
theorem dX13_settled_168 : decode cX13_settled 168 = .ok (.getfield 304, 3) := by decide +kernel
theorem dX13_settled_171 : decode cX13_settled 171 = .ok (.iload 4, 2) := by decide +kernel
theorem dX13_settled_173 : decode cX13_settled 173 = .ok (.laload, 1) := by decide +kernel
theorem dX13_settled_174 : decode cX13_settled 174 = .ok (.ladd, 1) := by decide +kernel
theorem dX13_settled_175 : decode cX13_settled 175 = .ok (.putfield 364, 3) := by decide +kernel
theorem dX13_settled_178 : decode cX13_settled 178 = .ok (.iinc 4 1, 3) := by decide +kernel
theorem dX13_settled_181 : decode cX13_settled 181 = .ok (.goto (-28), 3) := by decide +kernel
theorem dX13_settled_184 : decode cX13_settled 184 = .ok (.return_, 1) := by decide +kernel
