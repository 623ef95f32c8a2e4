theorem dX13_hidden_0 : decode cX13_hidden 0 = .ok (.aload_n 0, 1) := by decide +kernel
theorem dX13_hidden_1 : decode cX13_hidden 1 = .ok (.iconst 0, 1) := by decide +kernel
theorem dX13_hidden_2 : decode cX13_hidden 2 = .ok (.putfield 55, 3) := by decide +kernel
theorem dX13_hidden_5 : decode cX13_hidden 5 = .ok (.aload_n 0, 1) := by decide +kernel
theorem dX13_hidden_6 : decode cX13_hidden 6 = .ok (.iload_n 1, 1) := by decide +kernel
theorem dX13_hidden_7 : decode cX13_hidden 7 = .ok (.invokevirtual 64, 3) := by decide +kernel
theorem dX13_hidden_10 : decode cX13_hidden 10 = .ok (.ifCond .eq 15, 3) := by decide +kernel
theorem dX13_hidden_13 : decode cX13_hidden 13 = .ok (.aload_n 0, 1) := by decide +kernel
theorem dX13_hidden_14 : decode cX13_hidden 14 = .ok (.getfield 12, 3) := by decide +kernel
theorem dX13_hidden_17 : decode cX13_hidden 17 = .ok (.iload_n 1, 1) := by decide +kernel
theorem dX13_hidden_18 : decode cX13_hidden 18 = .ok (.aaload, 1) := by decide +kernel
theorem dX13_hidden_19 : decode cX13_hidden 19 = .ok (.getfield 142, 3) := by decide +kernel
theorem dX13_hidden_22 : decode cX13_hidden 22 = .ok (.ifCond .ne 9, 3) := by decide +kernel
theorem dX13_hidden_25 : decode cX13_hidden 25 = .ok (.aload_n 0, 1) := by decide +kernel
theorem dX13_hidden_26 : decode cX13_hidden 26 = .ok (.iconst 1, 1) := by decide +kernel
theorem dX13_hidden_27 : decode cX13_hidden 27 = .ok (.invokevirtual 73, 3) := by decide +kernel
theorem dX13_hidden_30 : decode cX13_hidden 30 = .ok (.ireturn, 1) := by decide +kernel
theorem dX13_hidden_31 : decode cX13_hidden 31 = .ok (.iload_n 3, 1) := by decide +kernel
theorem dX13_hidden_32 : decode cX13_hidden 32 = .ok (.invokestatic 164, 3) := by decide +kernel
theorem dX13_hidden_35 : decode cX13_hidden 35 = .ok (.ifCond .ne 9, 3) := by decide +kernel
theorem dX13_hidden_38 : decode cX13_hidden 38 = .ok (.aload_n 0, 1) := by decide +kernel
theorem dX13_hidden_39 : decode cX13_hidden 39 = .ok (.iconst 2, 1) := by decide +kernel
theorem dX13_hidden_40 : decode cX13_hidden 40 = .ok (.invokevirtual 73, 3) := by decide +kernel
theorem dX13_hidden_43 : decode cX13_hidden 43 = .ok (.ireturn, 1) := by decide +kernel
theorem dX13_hidden_44 : decode cX13_hidden 44 = .ok (.aload_n 0, 1) := by decide +kernel
theorem dX13_hidden_45 : decode cX13_hidden 45 = .ok (.getfield 12, 3) := by decide +kernel
theorem dX13_hidden_48 : decode cX13_hidden 48 = .ok (.iload_n 1, 1) := by decide +kernel
theorem dX13_hidden_49 : decode cX13_hidden 49 = .ok (.aaload, 1) := by decide +kernel
theorem dX13_hidden_50 : decode cX13_hidden 50 = .ok (.astore 4, 2) := by decide +kernel
theorem dX13_hidden_52 : decode cX13_hidden 52 = .ok (.iload_n 2, 1) := by decide +kernel
theorem dX13_hidden_53 : decode cX13_hidden 53 = .ok (.aload 4, 2) := by decide +kernel
theorem dX13_hidden_55 : decode cX13_hidden 55 = .ok (.getfield 77, 3) := by decide +kernel
theorem dX13_hidden_58 : decode cX13_hidden 58 = .ok (.if_icmp .lt 10, 3) := by decide +kernel
theorem dX13_hidden_61 : decode cX13_hidden 61 = .ok (.iload_n 2, 1) := by decide +kernel
theorem dX13_hidden_62 : decode cX13_hidden 62 = .ok (.sipush 1000, 3) := by decide +kernel
theorem dX13_hidden_65 : decode cX13_hidden 65 = .ok (.if_icmp .lt 9, 3) := by decide +kernel
theorem dX13_hidden_68 : decode cX13_hidden 68 = .ok (.aload_n 0, 1) := by decide +kernel
theorem dX13_hidden_69 : decode cX13_hidden 69 = .ok (.iconst 3, 1) := by decide +kernel
theorem dX13_hidden_70 : decode cX13_hidden 70 = .ok (.invokevirtual 73, 3) := by decide +kernel
theorem dX13_hidden_73 : decode cX13_hidden 73 = .ok (.ireturn, 1) := by decide +kernel
theorem dX13_hidden_74 : decode cX13_hidden 74 = .ok (.aload_n 0, 1) := by decide +kernel
theorem dX13_hidden_75 : decode cX13_hidden 75 = .ok (.aload 4, 2) := by decide +kernel
theorem dX13_hidden_77 : decode cX13_hidden 77 = .ok (.iload_n 2, 1) := by decide +kernel
theorem dX13_hidden_78 : decode cX13_hidden 78 = .ok (.invokevirtual 331, 3) := by decide +kernel
theorem dX13_hidden_81 : decode cX13_hidden 81 = .ok (.aload_n 0, 1) := by decide +kernel
theorem dX13_hidden_82 : decode cX13_hidden 82 = .ok (.aload 4, 2) := by decide +kernel
theorem dX13_hidden_84 : decode cX13_hidden 84 = .ok (.aload 4, 2) := by decide +kernel
theorem dX13_hidden_86 : decode cX13_hidden 86 = .ok (.iload_n 2, 1) := by decide +kernel
theorem dX13_hidden_87 : decode cX13_hidden 87 = .ok (.invokevirtual 321, 3) := by decide +kernel
theorem dX13_hidden_90 : decode cX13_hidden 90 = .ok (.iconst 2, 1) := by decide +kernel
theorem dX13_hidden_91 : decode cX13_hidden 91 = .ok (.invokevirtual 351, 3) := by decide +kernel
theorem dX13_hidden_94 : decode cX13_hidden 94 = .ok (.aload_n 0, 1) := by decide +kernel
theorem dX13_hidden_95 : decode cX13_hidden 95 = .ok (.iload_n 3, 1) := by decide +kernel
theorem dX13_hidden_96 : decode cX13_hidden 96 = .ok (.i2l, 1) := by decide +kernel
theorem dX13_hidden_97 : decode cX13_hidden 97 = .ok (.aload_n 0, 1) := by decide +kernel
theorem dX13_hidden_98 : decode cX13_hidden 98 = .ok (.getfield 39, 3) := by decide +kernel
theorem dX13_hidden_101 : decode cX13_hidden 101 = .ok (.iconst 0, 1) := by decide +kernel
theorem dX13_hidden_102 : decode cX13_hidden 102 = .ok (.aload 4, 2) := by decide +kernel
theorem dX13_hidden_104 : decode cX13_hidden 104 = .ok (.invokevirtual 226, 3) := by decide +kernel
theorem dX13_hidden_107 : decode cX13_hidden 107 = .ok (.ifCond .ne 9, 3) := by decide +kernel
theorem dX13_hidden_110 : decode cX13_hidden 110 = .ok (.aload_n 0, 1) := by decide +kernel
theorem dX13_hidden_111 : decode cX13_hidden 111 = .ok (.iconst 0, 1) := by decide +kernel
theorem dX13_hidden_112 : decode cX13_hidden 112 = .ok (.invokevirtual 86, 3) := by decide +kernel
theorem dX13_hidden_115 : decode cX13_hidden 115 = .ok (.ireturn, 1) := by decide +kernel
theorem dX13_hidden_116 : decode cX13_hidden 116 = .ok (.iconst 0, 1) := by decide +kernel
theorem dX13_hidden_117 : decode cX13_hidden 117 = .ok (.istore 5, 2) := by decide +kernel
theorem dX13_hidden_119 : decode cX13_hidden 119 = .ok (.iload 5, 2) := by decide +kernel
theorem dX13_hidden_121 : decode cX13_hidden 121 = .ok (.aload_n 0, 1) := by decide +kernel
theorem dX13_hidden_122 : decode cX13_hidden 122 = .ok (.getfield 213, 3) := by decide +kernel
theorem dX13_hidden_125 : decode cX13_hidden 125 = .ok (.if_icmp .ge 32, 3) := by decide +kernel
theorem dX13_hidden_128 : decode cX13_hidden 128 = .ok (.aload 4, 2) := by decide +kernel
theorem dX13_hidden_130 : decode cX13_hidden 130 = .ok (.getfield 370, 3) := by decide +kernel
theorem dX13_hidden_133 : decode cX13_hidden 133 = .ok (.aload_n 0, 1) := by decide +kernel
theorem dX13_hidden_134 : decode cX13_hidden 134 = .ok (.getfield 33, 3) := by decide +kernel
theorem dX13_hidden_137 : decode cX13_hidden 137 = .ok (.iload 5, 2) := by decide +kernel
theorem dX13_hidden_139 : decode cX13_hidden 139 = .ok (.iaload, 1) := by decide +kernel
theorem dX13_hidden_140 : decode cX13_hidden 140 = .ok (.dup2, 1) := by decide +kernel
theorem dX13_hidden_141 : decode cX13_hidden 141 = .ok (.laload, 1) := by decide +kernel
theorem dX13_hidden_142 : decode cX13_hidden 142 = .ok (.aload_n 0, 1) := by decide +kernel
theorem dX13_hidden_143 : decode cX13_hidden 143 = .ok (.getfield 39, 3) := by decide +kernel
theorem dX13_hidden_146 : decode cX13_hidden 146 = .ok (.iload 5, 2) := by decide +kernel
theorem dX13_hidden_148 : decode cX13_hidden 148 = .ok (.laload, 1) := by decide +kernel
theorem dX13_hidden_149 : decode cX13_hidden 149 = .ok (.ladd, 1) := by decide +kernel
theorem dX13_hidden_150 : decode cX13_hidden 150 = .ok (.lastore, 1) := by decide +kernel
theorem dX13_hidden_151 : decode cX13_hidden 151 = .ok (.iinc 5 1, 3) := by decide +kernel
theorem dX13_hidden_154 : decode cX13_hidden 154 = .ok (.goto (-35), 3) := by decide +kernel
theorem dX13_hidden_157 : decode cX13_hidden 157 = .ok (.aload_n 0, 1) := by decide +kernel
theorem dX13_hidden_158 : decode cX13_hidden 158 = .ok (.iload_n 3, 1) := by decide +kernel
theorem dX13_hidden_159 : decode cX13_hidden 159 = .ok (.invokevirtual 86, 3) := by decide +kernel
theorem dX13_hidden_162 : decode cX13_hidden 162 = .ok (.ireturn, 1) := by decide +kernel
theorem dX13_bear_0 : decode cX13_bear 0 = .ok (.aload_n 0, 1) := by decide +kernel
theorem dX13_bear_1 : decode cX13_bear 1 = .ok (.iconst 0, 1) := by decide +kernel
theorem dX13_bear_2 : decode cX13_bear 2 = .ok (.putfield 55, 3) := by decide +kernel
theorem dX13_bear_5 : decode cX13_bear 5 = .ok (.aload_n 0, 1) := by decide +kernel
theorem dX13_bear_6 : decode cX13_bear 6 = .ok (.iload_n 1, 1) := by decide +kernel
theorem dX13_bear_7 : decode cX13_bear 7 = .ok (.invokevirtual 64, 3) := by decide +kernel
theorem dX13_bear_10 : decode cX13_bear 10 = .ok (.ifCond .eq 15, 3) := by decide +kernel
theorem dX13_bear_13 : decode cX13_bear 13 = .ok (.aload_n 0, 1) := by decide +kernel
theorem dX13_bear_14 : decode cX13_bear 14 = .ok (.getfield 12, 3) := by decide +kernel
theorem dX13_bear_17 : decode cX13_bear 17 = .ok (.iload_n 1, 1) := by decide +kernel
theorem dX13_bear_18 : decode cX13_bear 18 = .ok (.aaload, 1) := by decide +kernel
theorem dX13_bear_19 : decode cX13_bear 19 = .ok (.getfield 142, 3) := by decide +kernel
theorem dX13_bear_22 : decode cX13_bear 22 = .ok (.ifCond .ne 9, 3) := by decide +kernel
theorem dX13_bear_25 : decode cX13_bear 25 = .ok (.aload_n 0, 1) := by decide +kernel
theorem dX13_bear_26 : decode cX13_bear 26 = .ok (.iconst 1, 1) := by decide +kernel
theorem dX13_bear_27 : decode cX13_bear 27 = .ok (.invokevirtual 73, 3) := by decide +kernel
theorem dX13_bear_30 : decode cX13_bear 30 = .ok (.ireturn, 1) := by decide +kernel
theorem dX13_bear_31 : decode cX13_bear 31 = .ok (.iload_n 3, 1) := by decide +kernel
theorem dX13_bear_32 : decode cX13_bear 32 = .ok (.invokestatic 164, 3) := by decide +kernel
theorem dX13_bear_35 : decode cX13_bear 35 = .ok (.ifCond .ne 9, 3) := by decide +kernel
theorem dX13_bear_38 : decode cX13_bear 38 = .ok (.aload_n 0, 1) := by decide +kernel
theorem dX13_bear_39 : decode cX13_bear 39 = .ok (.iconst 2, 1) := by decide +kernel
theorem dX13_bear_40 : decode cX13_bear 40 = .ok (.invokevirtual 73, 3) := by decide +kernel
theorem dX13_bear_43 : decode cX13_bear 43 = .ok (.ireturn, 1) := by decide +kernel
theorem dX13_bear_44 : decode cX13_bear 44 = .ok (.aload_n 0, 1) := by decide +kernel
theorem dX13_bear_45 : decode cX13_bear 45 = .ok (.getfield 12, 3) := by decide +kernel
theorem dX13_bear_48 : decode cX13_bear 48 = .ok (.iload_n 1, 1) := by decide +kernel
theorem dX13_bear_49 : decode cX13_bear 49 = .ok (.aaload, 1) := by decide +kernel
theorem dX13_bear_50 : decode cX13_bear 50 = .ok (.astore 4, 2) := by decide +kernel
theorem dX13_bear_52 : decode cX13_bear 52 = .ok (.iload_n 2, 1) := by decide +kernel
theorem dX13_bear_53 : decode cX13_bear 53 = .ok (.aload 4, 2) := by decide +kernel
theorem dX13_bear_55 : decode cX13_bear 55 = .ok (.getfield 77, 3) := by decide +kernel
theorem dX13_bear_58 : decode cX13_bear 58 = .ok (.if_icmp .lt 10, 3) := by decide +kernel
theorem dX13_bear_61 : decode cX13_bear 61 = .ok (.iload_n 2, 1) := by decide +kernel
theorem dX13_bear_62 : decode cX13_bear 62 = .ok (.sipush 1000, 3) := by decide +kernel
theorem dX13_bear_65 : decode cX13_bear 65 = .ok (.if_icmp .lt 9, 3) := by decide +kernel
theorem dX13_bear_68 : decode cX13_bear 68 = .ok (.aload_n 0, 1) := by decide +kernel
theorem dX13_bear_69 : decode cX13_bear 69 = .ok (.iconst 3, 1) := by decide +kernel
theorem dX13_bear_70 : decode cX13_bear 70 = .ok (.invokevirtual 73, 3) := by decide +kernel
theorem dX13_bear_73 : decode cX13_bear 73 = .ok (.ireturn, 1) := by decide +kernel
theorem dX13_bear_74 : decode cX13_bear 74 = .ok (.aload_n 0, 1) := by decide +kernel
theorem dX13_bear_75 : decode cX13_bear 75 = .ok (.iconst 0, 1) := by decide +kernel
theorem dX13_bear_76 : decode cX13_bear 76 = .ok (.putfield 213, 3) := by decide +kernel
theorem dX13_bear_79 : decode cX13_bear 79 = .ok (.iconst 0, 1) := by decide +kernel
theorem dX13_bear_80 : decode cX13_bear 80 = .ok (.istore 5, 2) := by decide +kernel
theorem dX13_bear_82 : decode cX13_bear 82 = .ok (.iload 5, 2) := by decide +kernel
theorem dX13_bear_84 : decode cX13_bear 84 = .ok (.aload 4, 2) := by decide +kernel
theorem dX13_bear_86 : decode cX13_bear 86 = .ok (.getfield 68, 3) := by decide +kernel
theorem dX13_bear_89 : decode cX13_bear 89 = .ok (.if_icmp .ge 193, 3) := by decide +kernel
theorem dX13_bear_92 : decode cX13_bear 92 = .ok (.aload 4, 2) := by decide +kernel
theorem dX13_bear_94 : decode cX13_bear 94 = .ok (.iload 5, 2) := by decide +kernel
theorem dX13_bear_96 : decode cX13_bear 96 = .ok (.iload_n 2, 1) := by decide +kernel
theorem dX13_bear_97 : decode cX13_bear 97 = .ok (.invokevirtual 190, 3) := by decide +kernel
theorem dX13_bear_100 : decode cX13_bear 100 = .ok (.ifCond .eq 43, 3) := by decide +kernel
theorem dX13_bear_103 : decode cX13_bear 103 = .ok (.aload 4, 2) := by decide +kernel
theorem dX13_bear_105 : decode cX13_bear 105 = .ok (.getfield 95, 3) := by decide +kernel
theorem dX13_bear_108 : decode cX13_bear 108 = .ok (.iload 5, 2) := by decide +kernel
theorem dX13_bear_110 : decode cX13_bear 110 = .ok (.iaload, 1) := by decide +kernel
theorem dX13_bear_111 : decode cX13_bear 111 = .ok (.iconst (-1), 1) := by decide +kernel
theorem dX13_bear_112 : decode cX13_bear 112 = .ok (.if_icmp .eq 27, 3) := by decide +kernel
theorem dX13_bear_115 : decode cX13_bear 115 = .ok (.aload 4, 2) := by decide +kernel
theorem dX13_bear_117 : decode cX13_bear 117 = .ok (.aload 4, 2) := by decide +kernel
theorem dX13_bear_119 : decode cX13_bear 119 = .ok (.getfield 95, 3) := by decide +kernel
theorem dX13_bear_122 : decode cX13_bear 122 = .ok (.iload 5, 2) := by decide +kernel
theorem dX13_bear_124 : decode cX13_bear 124 = .ok (.iaload, 1) := by decide +kernel
theorem dX13_bear_125 : decode cX13_bear 125 = .ok (.invokestatic 379, 3) := by decide +kernel
theorem dX13_bear_128 : decode cX13_bear 128 = .ok (.aload 4, 2) := by decide +kernel
theorem dX13_bear_130 : decode cX13_bear 130 = .ok (.getfield 118, 3) := by decide +kernel
theorem dX13_bear_133 : decode cX13_bear 133 = .ok (.iload 5, 2) := by decide +kernel
theorem dX13_bear_135 : decode cX13_bear 135 = .ok (.iaload, 1) := by decide +kernel
theorem dX13_bear_136 : decode cX13_bear 136 = .ok (.if_icmp .ge 7, 3) := by decide +kernel
theorem dX13_bear_139 : decode cX13_bear 139 = .ok (.iconst 1, 1) := by decide +kernel
theorem dX13_bear_140 : decode cX13_bear 140 = .ok (.goto 4, 3) := by decide +kernel
theorem dX13_bear_143 : decode cX13_bear 143 = .ok (.iconst 0, 1) := by decide +kernel
theorem dX13_bear_144 : decode cX13_bear 144 = .ok (.istore 6, 2) := by decide +kernel
theorem dX13_bear_146 : decode cX13_bear 146 = .ok (.aload 4, 2) := by decide +kernel
theorem dX13_bear_148 : decode cX13_bear 148 = .ok (.getfield 112, 3) := by decide +kernel
theorem dX13_bear_151 : decode cX13_bear 151 = .ok (.iload 5, 2) := by decide +kernel
theorem dX13_bear_153 : decode cX13_bear 153 = .ok (.iaload, 1) := by decide +kernel
theorem dX13_bear_154 : decode cX13_bear 154 = .ok (.iload_n 2, 1) := by decide +kernel
theorem dX13_bear_155 : decode cX13_bear 155 = .ok (.if_icmp .le 30, 3) := by decide +kernel
theorem dX13_bear_158 : decode cX13_bear 158 = .ok (.aload 4, 2) := by decide +kernel
theorem dX13_bear_160 : decode cX13_bear 160 = .ok (.getfield 124, 3) := by decide +kernel
theorem dX13_bear_163 : decode cX13_bear 163 = .ok (.iload 5, 2) := by decide +kernel
theorem dX13_bear_165 : decode cX13_bear 165 = .ok (.baload, 1) := by decide +kernel
theorem dX13_bear_166 : decode cX13_bear 166 = .ok (.ifCond .eq 19, 3) := by decide +kernel
theorem dX13_bear_169 : decode cX13_bear 169 = .ok (.aload 4, 2) := by decide +kernel
theorem dX13_bear_171 : decode cX13_bear 171 = .ok (.getfield 95, 3) := by decide +kernel
theorem dX13_bear_174 : decode cX13_bear 174 = .ok (.iload 5, 2) := by decide +kernel
theorem dX13_bear_176 : decode cX13_bear 176 = .ok (.iaload, 1) := by decide +kernel
theorem dX13_bear_177 : decode cX13_bear 177 = .ok (.iconst (-1), 1) := by decide +kernel
theorem dX13_bear_178 : decode cX13_bear 178 = .ok (.if_icmp .ne 7, 3) := by decide +kernel
theorem dX13_bear_181 : decode cX13_bear 181 = .ok (.iconst 1, 1) := by decide +kernel
theorem dX13_bear_182 : decode cX13_bear 182 = .ok (.goto 4, 3) := by decide +kernel
theorem dX13_bear_185 : decode cX13_bear 185 = .ok (.iconst 0, 1) := by decide +kernel
theorem dX13_bear_186 : decode cX13_bear 186 = .ok (.istore 7, 2) := by decide +kernel
theorem dX13_bear_188 : decode cX13_bear 188 = .ok (.iload 6, 2) := by decide +kernel
theorem dX13_bear_190 : decode cX13_bear 190 = .ok (.ifCond .ne 11, 3) := by decide +kernel
theorem dX13_bear_193 : decode cX13_bear 193 = .ok (.iload 7, 2) := by decide +kernel
theorem dX13_bear_195 : decode cX13_bear 195 = .ok (.ifCond .ne 6, 3) := by decide +kernel
theorem dX13_bear_198 : decode cX13_bear 198 = .ok (.goto 78, 3) := by decide +kernel
theorem dX13_bear_201 : decode cX13_bear 201 = .ok (.aload_n 0, 1) := by decide +kernel
theorem dX13_bear_202 : decode cX13_bear 202 = .ok (.getfield 33, 3) := by decide +kernel
theorem dX13_bear_205 : decode cX13_bear 205 = .ok (.aload_n 0, 1) := by decide +kernel
theorem dX13_bear_206 : decode cX13_bear 206 = .ok (.getfield 213, 3) := by decide +kernel
theorem dX13_bear_209 : decode cX13_bear 209 = .ok (.iload 5, 2) := by decide +kernel
theorem dX13_bear_211 : decode cX13_bear 211 = .ok (.iastore, 1) := by decide +kernel
theorem dX13_bear_212 : decode cX13_bear 212 = .ok (.aload_n 0, 1) := by decide +kernel
theorem dX13_bear_213 : decode cX13_bear 213 = .ok (.getfield 36, 3) := by decide +kernel
theorem dX13_bear_216 : decode cX13_bear 216 = .ok (.aload_n 0, 1) := by decide +kernel
theorem dX13_bear_217 : decode cX13_bear 217 = .ok (.getfield 213, 3) := by decide +kernel
theorem dX13_bear_220 : decode cX13_bear 220 = .ok (.aload 4, 2) := by decide +kernel
theorem dX13_bear_222 : decode cX13_bear 222 = .ok (.iload 6, 2) := by decide +kernel
theorem dX13_bear_224 : decode cX13_bear 224 = .ok (.ifCond .eq 12, 3) := by decide +kernel
theorem dX13_bear_227 : decode cX13_bear 227 = .ok (.aload 4, 2) := by decide +kernel
theorem dX13_bear_229 : decode cX13_bear 229 = .ok (.iload_n 2, 1) := by decide +kernel
theorem dX13_bear_230 : decode cX13_bear 230 = .ok (.invokevirtual 321, 3) := by decide +kernel
theorem dX13_bear_233 : decode cX13_bear 233 = .ok (.goto 10, 3) := by decide +kernel
theorem dX13_bear_236 : decode cX13_bear 236 = .ok (.aload 4, 2) := by decide +kernel
theorem dX13_bear_238 : decode cX13_bear 238 = .ok (.getfield 142, 3) := by decide +kernel
theorem dX13_bear_241 : decode cX13_bear 241 = .ok (.iconst 1, 1) := by decide +kernel
theorem dX13_bear_242 : decode cX13_bear 242 = .ok (.isub, 1) := by decide +kernel
theorem dX13_bear_243 : decode cX13_bear 243 = .ok (.iconst 3, 1) := by decide +kernel
theorem dX13_bear_244 : decode cX13_bear 244 = .ok (.aload 4, 2) := by decide +kernel
theorem dX13_bear_246 : decode cX13_bear 246 = .ok (.getfield 110, 3) := by decide +kernel
theorem dX13_bear_249 : decode cX13_bear 249 = .ok (.iload 5, 2) := by decide +kernel
theorem dX13_bear_251 : decode cX13_bear 251 = .ok (.iaload, 1) := by decide +kernel
theorem dX13_bear_252 : decode cX13_bear 252 = .ok (.invokevirtual 154, 3) := by decide +kernel
theorem dX13_bear_255 : decode cX13_bear 255 = .ok (.iastore, 1) := by decide +kernel
theorem dX13_bear_256 : decode cX13_bear 256 = .ok (.aload_n 0, 1) := by decide +kernel
theorem dX13_bear_257 : decode cX13_bear 257 = .ok (.getfield 39, 3) := by decide +kernel
theorem dX13_bear_260 : decode cX13_bear 260 = .ok (.aload_n 0, 1) := by decide +kernel
theorem dX13_bear_261 : decode cX13_bear 261 = .ok (.getfield 213, 3) := by decide +kernel
theorem dX13_bear_264 : decode cX13_bear 264 = .ok (.lconst 0, 1) := by decide +kernel
theorem dX13_bear_265 : decode cX13_bear 265 = .ok (.lastore, 1) := by decide +kernel
theorem dX13_bear_266 : decode cX13_bear 266 = .ok (.aload_n 0, 1) := by decide +kernel
theorem dX13_bear_267 : decode cX13_bear 267 = .ok (.dup, 1) := by decide +kernel
theorem dX13_bear_268 : decode cX13_bear 268 = .ok (.getfield 213, 3) := by decide +kernel
theorem dX13_bear_271 : decode cX13_bear 271 = .ok (.iconst 1, 1) := by decide +kernel
theorem dX13_bear_272 : decode cX13_bear 272 = .ok (.iadd, 1) := by decide +kernel
theorem dX13_bear_273 : decode cX13_bear 273 = .ok (.putfield 213, 3) := by decide +kernel
theorem dX13_bear_276 : decode cX13_bear 276 = .ok (.iinc 5 1, 3) := by decide +kernel
theorem dX13_bear_279 : decode cX13_bear 279 = .ok (.goto (-197), 3) := by decide +kernel
theorem dX13_bear_282 : decode cX13_bear 282 = .ok (.aload_n 0, 1) := by decide +kernel
theorem dX13_bear_283 : decode cX13_bear 283 = .ok (.aload 4, 2) := by decide +kernel
theorem dX13_bear_285 : decode cX13_bear 285 = .ok (.iload_n 3, 1) := by decide +kernel
theorem dX13_bear_286 : decode cX13_bear 286 = .ok (.i2l, 1) := by decide +kernel
theorem dX13_bear_287 : decode cX13_bear 287 = .ok (.invokevirtual 354, 3) := by decide +kernel
theorem dX13_bear_290 : decode cX13_bear 290 = .ok (.lstore 5, 2) := by decide +kernel
theorem dX13_bear_292 : decode cX13_bear 292 = .ok (.iconst 0, 1) := by decide +kernel
theorem dX13_bear_293 : decode cX13_bear 293 = .ok (.istore 7, 2) := by decide +kernel
theorem dX13_bear_295 : decode cX13_bear 295 = .ok (.iload 7, 2) := by decide +kernel
theorem dX13_bear_297 : decode cX13_bear 297 = .ok (.bipush 24, 2) := by decide +kernel
theorem dX13_bear_299 : decode cX13_bear 299 = .ok (.if_icmp .ge 17, 3) := by decide +kernel
theorem dX13_bear_302 : decode cX13_bear 302 = .ok (.aload_n 0, 1) := by decide +kernel
theorem dX13_bear_303 : decode cX13_bear 303 = .ok (.getfield 49, 3) := by decide +kernel
theorem dX13_bear_306 : decode cX13_bear 306 = .ok (.iload 7, 2) := by decide +kernel
theorem dX13_bear_308 : decode cX13_bear 308 = .ok (.iconst 0, 1) := by decide +kernel
theorem dX13_bear_309 : decode cX13_bear 309 = .ok (.iastore, 1) := by decide +kernel
theorem dX13_bear_310 : decode cX13_bear 310 = .ok (.iinc 7 1, 3) := by decide +kernel
theorem dX13_bear_313 : decode cX13_bear 313 = .ok (.goto (-18), 3) := by decide +kernel
theorem dX13_bear_316 : decode cX13_bear 316 = .ok (.iconst 0, 1) := by decide +kernel
theorem dX13_bear_317 : decode cX13_bear 317 = .ok (.istore 7, 2) := by decide +kernel
theorem dX13_bear_319 : decode cX13_bear 319 = .ok (.iconst 0, 1) := by decide +kernel
theorem dX13_bear_320 : decode cX13_bear 320 = .ok (.istore 8, 2) := by decide +kernel
theorem dX13_bear_322 : decode cX13_bear 322 = .ok (.iload 8, 2) := by decide +kernel
theorem dX13_bear_324 : decode cX13_bear 324 = .ok (.aload_n 0, 1) := by decide +kernel
theorem dX13_bear_325 : decode cX13_bear 325 = .ok (.getfield 213, 3) := by decide +kernel
theorem dX13_bear_328 : decode cX13_bear 328 = .ok (.if_icmp .ge 51, 3) := by decide +kernel
theorem dX13_bear_331 : decode cX13_bear 331 = .ok (.aload_n 0, 1) := by decide +kernel
theorem dX13_bear_332 : decode cX13_bear 332 = .ok (.getfield 49, 3) := by decide +kernel
theorem dX13_bear_335 : decode cX13_bear 335 = .ok (.aload_n 0, 1) := by decide +kernel
theorem dX13_bear_336 : decode cX13_bear 336 = .ok (.getfield 33, 3) := by decide +kernel
theorem dX13_bear_339 : decode cX13_bear 339 = .ok (.iload 8, 2) := by decide +kernel
theorem dX13_bear_341 : decode cX13_bear 341 = .ok (.iaload, 1) := by decide +kernel
theorem dX13_bear_342 : decode cX13_bear 342 = .ok (.aload_n 0, 1) := by decide +kernel
theorem dX13_bear_343 : decode cX13_bear 343 = .ok (.getfield 39, 3) := by decide +kernel
theorem dX13_bear_346 : decode cX13_bear 346 = .ok (.iload 8, 2) := by decide +kernel
theorem dX13_bear_348 : decode cX13_bear 348 = .ok (.laload, 1) := by decide +kernel
theorem dX13_bear_349 : decode cX13_bear 349 = .ok (.l2i, 1) := by decide +kernel
theorem dX13_bear_350 : decode cX13_bear 350 = .ok (.iastore, 1) := by decide +kernel
theorem dX13_bear_351 : decode cX13_bear 351 = .ok (.iload 7, 2) := by decide +kernel
theorem dX13_bear_353 : decode cX13_bear 353 = .ok (.aload_n 0, 1) := by decide +kernel
theorem dX13_bear_354 : decode cX13_bear 354 = .ok (.getfield 39, 3) := by decide +kernel
theorem dX13_bear_357 : decode cX13_bear 357 = .ok (.iload 8, 2) := by decide +kernel
theorem dX13_bear_359 : decode cX13_bear 359 = .ok (.laload, 1) := by decide +kernel
theorem dX13_bear_360 : decode cX13_bear 360 = .ok (.lconst 0, 1) := by decide +kernel
theorem dX13_bear_361 : decode cX13_bear 361 = .ok (.lcmp, 1) := by decide +kernel
theorem dX13_bear_362 : decode cX13_bear 362 = .ok (.ifCond .le 7, 3) := by decide +kernel
theorem dX13_bear_365 : decode cX13_bear 365 = .ok (.iconst 1, 1) := by decide +kernel
theorem dX13_bear_366 : decode cX13_bear 366 = .ok (.goto 4, 3) := by decide +kernel
theorem dX13_bear_369 : decode cX13_bear 369 = .ok (.iconst 0, 1) := by decide +kernel
theorem dX13_bear_370 : decode cX13_bear 370 = .ok (.iadd, 1) := by decide +kernel
theorem dX13_bear_371 : decode cX13_bear 371 = .ok (.istore 7, 2) := by decide +kernel
theorem dX13_bear_373 : decode cX13_bear 373 = .ok (.iinc 8 1, 3) := by decide +kernel
theorem dX13_bear_376 : decode cX13_bear 376 = .ok (.goto (-54), 3) := by decide +kernel
theorem dX13_bear_379 : decode cX13_bear 379 = .ok (.aload_n 0, 1) := by decide +kernel
theorem dX13_bear_380 : decode cX13_bear 380 = .ok (.lload 5, 2) := by decide +kernel
theorem dX13_bear_382 : decode cX13_bear 382 = .ok (.l2i, 1) := by decide +kernel
theorem dX13_bear_383 : decode cX13_bear 383 = .ok (.putfield 382, 3) := by decide +kernel
theorem dX13_bear_386 : decode cX13_bear 386 = .ok (.aload_n 0, 1) := by decide +kernel
theorem dX13_bear_387 : decode cX13_bear 387 = .ok (.iload 7, 2) := by decide +kernel
theorem dX13_bear_389 : decode cX13_bear 389 = .ok (.invokevirtual 86, 3) := by decide +kernel
theorem dX13_bear_392 : decode cX13_bear 392 = .ok (.ireturn, 1) := by decide +kernel
theorem wd_811 : Cond.methodLink RX13 331 yX13_present ∈ lw_good := mem_t7 68 (by decide +kernel) rfl
theorem wd_812 : Cond.instanceMethod yX13_present ∈ lw_good := mem_t7 70 (by decide +kernel) rfl
theorem wd_813 : Cond.selects RX13 yX13_present yX13_present ∈ lw_good := mem_p 40 (by decide +kernel) rfl
theorem wd_814 : Cond.code yX13_present cX13_present 5 none ∈ lw_good := mem_t7 71 rfl rfl
theorem wd_815 : Cond.methodLink RX13 321 yX12_ruleOn ∈ lw_good := mem_t7 60 (by decide +kernel) rfl
theorem wd_816 : Cond.instanceMethod yX12_ruleOn ∈ lw_good := mem_t7 61 (by decide +kernel) rfl
theorem wd_817 : Cond.selects RX12 yX12_ruleOn yX12_ruleOn ∈ lw_good := mem_t7 62 (by decide +kernel) rfl
theorem wd_818 : Cond.code yX12_ruleOn cX12_ruleOn 3 (some .int) ∈ lw_good := mem_t7 63 rfl rfl
theorem wd_819 : Cond.methodLink RX13 379 yX13_since ∈ lw_good := mem_t7 136 (by decide +kernel) rfl
theorem wd_820 : Cond.static yX13_since ∈ lw_good := mem_t7 137 (by decide +kernel) rfl
theorem wd_821 : Cond.code yX13_since cX13_since 4 (some .int) ∈ lw_good := mem_t7 138 rfl rfl
/-- a House with rules has its first one from its first day on -/
def RLH (cy : Nat → ClassId) (a : Nat) (M : Hp) : Prop := ∀ (fs : List Value) (n first : Nat), M a = .inr (12, fs) → fs[11]? = some (.int (nI n)) → 1 ≤ n → fs[0]? = some (.int (nI first)) → ∃ (r : Nat) (f : Nat → Int32), fs[34]? = some (.ref r) ∧ M r = .inl (cy 14, 16, .inl f) ∧ f 0 ≤ nI first
def RLI (cy : Nat → ClassId) (K : Kp) (L : List Nat) (M : Hp) : Prop := ∀ a, isk K L a 12 0 → RLH cy a M
theorem RLD.of {cy : Nat → ClassId} {K : Kp} {L : List Nat} {M : Hp} {a n first : Nat} {d : Int32} {fs : List Value} (hW : WOM cy K L M) (h : RLI cy K L M) (ha : isk K L a 12 0) (hM : M a = .inr (12, fs)) (h11 : fs[11]? = some (.int (nI n))) (hn : 1 ≤ n) (hn2 : n ≤ 16) (h0 : fs[0]? = some (.int (nI first))) (hd : nI first ≤ d) : RLD cy K L a d M := by
  obtain ⟨r, f, h1, h2, h3⟩ := h a ha fs n first hM h11 hn h0
  obtain ⟨fs', hM', hlen, hfl⟩ := hW.open_12 ha
  have q9 := (Prod.mk.inj (Sum.inr.inj (hM'.symm.trans hM))).2
  rw [q9] at hfl
  obtain ⟨r', hr, hi⟩ : ∃ v : Nat, fs[34]? = some (.ref v : Value) ∧ isk K L v 43 16 := hfl 34 (by decide)
  have e : r' = r := by
    rw [h1] at hr
    exact (Value.ref.inj (Option.some.inj hr)).symm
  rw [e] at hi
  exact ⟨fs, n, r, f, hM, h11, hn, hn2, h1, hi, h2, Int32.le_trans h3 hd⟩
theorem RLI.fr {cy : Nat → ClassId} {K : Kp} {L : List Nat} {M M' : Hp} {ts : List Nat} (hW : WOM cy K L M) (h : RLI cy K L M) (hF : fr K L ts M M') (h1 : 12 ∉ ts) (h2 : 43 ∉ ts) : RLI cy K L M' := fun a ha fs n first hM h11 hn h0 => by
  rw [hF.at ha h1] at hM
  obtain ⟨r, f, h3, h4, h5⟩ := h a ha fs n first hM h11 hn h0
  obtain ⟨fs', hM', hlen, hfl⟩ := hW.open_12 ha
  have q9 := (Prod.mk.inj (Sum.inr.inj (hM'.symm.trans hM))).2
  rw [q9] at hfl
  obtain ⟨r', hr, hi⟩ : ∃ v : Nat, fs[34]? = some (.ref v : Value) ∧ isk K L v 43 16 := hfl 34 (by decide)
  have e : r' = r := by
    rw [h3] at hr
    exact (Value.ref.inj (Option.some.inj hr)).symm
  rw [e] at hi
  exact ⟨r, f, h3, (hF.at hi h2).trans h4, h5⟩
set_option maxHeartbeats 4000000 in
set_option maxRecDepth 100000 in
theorem r_ruleOnP (l : Launch) (D : va_G) (cy : Nat → ClassId) (K : Kp) (L : List Nat) (M : Hp) (sz : Nat) (oa : Nat) (k1 : Int32) (hW : WOM cy K L M) (ia : isk K L oa 12 0) (hRL : RLD cy K L oa k1 M) : Met l yX12_ruleOn (wsM yX12_ruleOn cX12_ruleOn 3 (some .int)) ({ frames := 0, cells := 0, slots := 0, locals := 0 }) (va_Pc [.ref oa, .int k1] (PG D cy [] L M sz)) (va_Qi (fun (r : Int32) (_ : Unit) => (∃ (j : Nat), r = (nI j) ∧ j < 16)) (fun _ t => PQ D [] L M (va_A ([] ++ va_pl L M) sz) t) (va_A ([] ++ va_pl L M) sz)) 0 0 (va_A ([] ++ va_pl L M) sz) := by
  refine Met.ofW (cc := cX12_ruleOn) (maxL := 3) (ret := (some .int)) (by decide) rfl ?_
  intro p e s m args below meth c s₁ B hml hv
  obtain ⟨rfl, hsz, hP, hK, hD0, hN⟩ := hv
  have hx := B.exec
  have hb := B.bytes
  have hr := B.returns
  have hts := atoms_spec (ws := (wsM yX12_ruleOn cX12_ruleOn 3 (some .int))) B.pre
  have hg : ∀ w ∈ lw_good, w.before _ s = true := fun w h => hts w (List.mem_cons_of_mem _ h)
  have hown : s.vm.findClass RX12 = some m.cls := findClass_of_methodNamed B.named
  have hlocks := B.notSynchronized
  subst hsz
  have hD := hD0.self (sz := s.heap.size)
  generalize hAe : va_A ([] ++ va_pl L M) s.heap.size = A at hD ⊢
  have hA : ∀ q : Nat, s.heap.size ≤ q → A q := fun q h => by rw [← hAe]; exact Or.inr h
  have hS : va_S A s.heap s.heap [] := va_S.rf
  have hl := lv_entry ([.ref oa, .int k1]) (n := 3) (Nat.le_of_ble_eq_true rfl)
  rw [lg_entry_eq]
  generalize (lg_sl ([.ref oa, .int k1]) ++ List.replicate (3 - (lg_sl ([.ref oa, .int k1])).length) Slot.unset).toArray = ls at hl ⊢
  refine W.nameQ (fun Q hQ => ?_)
  refine W.nameR (fun R hR => ?_)
  have hRf : 0 ≤ R.frames := by rw [hR]; exact Nat.le_of_ble_eq_true rfl
  have hRl : 0 ≤ R.locals := by rw [hR]; exact Nat.le_of_ble_eq_true rfl
  have hRc : 0 ≤ R.cells := by rw [hR]; exact Nat.le_of_ble_eq_true rfl
  have hRs : 0 ≤ R.slots := by rw [hR]; exact Nat.le_of_ble_eq_true rfl
  have hl : lv_has ls 3 [(0, .ref oa), (1, .int k1)] := hl
  obtain ⟨fs, n11, r34, f34, hMa, hv11, hn1, hn16, hv34, i34, hM34, hf0⟩ := hRL
  obtain ⟨fs', hM', hlen, hfl⟩ := hW.open_12 ia
  have q9 := (Prod.mk.inj (Sum.inr.inj (hM'.symm.trans hMa))).2
  rw [q9] at hlen hfl
  refine lv_aload_n hx hb dX12_ruleOn_0 rfl (lv_at hl 0 rfl) ?_
  refine pg_get (D := D) (ci := 12) (v := .int (nI n11)) (C := RX12) (T := TX12) (N := 51) hx hb hg inG12 hown hK hP ia.1 hMa rfl 11 (by decide) (hg _ wd_707) (fun _ h9 => h9) hv11 dX12_ruleOn_1 ?_
  refine lv_iconst (v := 1) hx hb dX12_ruleOn_4 (by decide) ?_
  refine lv_isub hx hb dX12_ruleOn_5 ?_
  refine lv_topi (fun f_1 ef_1 => ?_)
  obtain rfl : f_1 = (nI (n11 - 1)) := ef_1.trans (nI_prd (by omega))
  refine lv_istore_n (lv' := [(2, .int (nI (n11 - 1))), (0, .ref oa), (1, .int k1)]) hx hb dX12_ruleOn_6 rfl hl (by decide) rfl (fun ls hl => ?_)
  have key_2 : ∀ (fu_4 : Nat) (v2w5 : Nat) (H_7 : Heap) (locs : List Loc) (ls : Array Slot), v2w5 < fu_4 → v2w5 < n11 → WOM cy K L M → va_P D vwCl ([] ++ va_pl L M) H_7 → va_D A ([] ++ va_pl L M) → va_S A s.heap H_7 locs → lv_has ls 3 [(2, .int (nI v2w5)), (0, .ref oa), (1, .int k1)] → W p l e R s m ([.ref oa, .int k1] : List Value).toArray below meth c H_7 locs 0 0 Q (F0 m 7 ls []) := by
    intro fu_4
    induction fu_4 with
    | zero => intro v2w5 H_7 locs ls h; exact absurd h (Nat.not_lt_zero _)
    | succ fu_4 ih_3 =>
      intro v2w5 H_7 locs ls hfu hx_6 hW hP hD hS hl
      refine lv_iload_n hx hb dX12_ruleOn_7 rfl (lv_at hl 0 rfl) ?_
      refine lv_if_lt (tgt := 27) hx hb dX12_ruleOn_8 (by decide) (fun c_8 => absurd c_8 (nI_pos (by omega))) (fun _ => ?_)
      refine lv_aload_n hx hb dX12_ruleOn_11 rfl (lv_at hl 1 rfl) ?_
      refine pg_get (D := D) (ci := 12) (v := .ref r34) (C := RX12) (T := TX12) (N := 51) hx hb hg inG12 hown hK hP ia.1 hMa rfl 34 (by decide) (hg _ wd_708) (fun _ h9 => h9) hv34 dX12_ruleOn_12 ?_
      refine lv_iload_n hx hb dX12_ruleOn_15 rfl (lv_at hl 0 rfl) ?_
      refine pg_iald hx hb hK hP i34.1 0 hM34 rfl (inbN v2w5 16 (by omega) (by omega)) dX12_ruleOn_16 ?_
      refine lv_topi (fun f_9 ef_9 => ?_)
      refine lv_iload_n hx hb dX12_ruleOn_17 rfl (lv_at hl 2 rfl) ?_
      refine lv_icmp_le (tgt := 27) hx hb dX12_ruleOn_18 (by decide) (fun c_10 => ?_) (fun c_10 => ?_)
      · have hz := rfl (a := 0)
        refine lv_iload_n hx hb dX12_ruleOn_27 rfl (lv_at hl 0 rfl) ?_
        rw [hQ]
        exact W.iret (v := (nI v2w5)) hx hb hr (fun t ht hW9 => ⟨⟨(nI v2w5), (), rfl, ⟨v2w5, rfl, (by omega)⟩, ⟨by rw [ht]; exact hP, hD⟩⟩, hS.F ht⟩) hS.2.2 dX12_ruleOn_28
      · have hz := rfl (a := 0)
        rcases Nat.eq_zero_or_pos v2w5 with hz0 | hz1
        · exact absurd (show f_9 ≤ k1 by rw [ef_9, hz0]; exact hf0) c_10
        · refine lv_iinc (v := (nI (v2w5 - 1))) (lv' := [(2, .int (nI (v2w5 - 1))), (0, .ref oa), (1, .int k1)]) hx hb dX12_ruleOn_21 hl (k := 0) rfl (sb_m1 hz1) (by decide) rfl (fun ls hl => ?_)
          refine lv_goto (tgt := 7) hx hb dX12_ruleOn_24 (by decide) ?_
          exact ih_3 (v2w5 - 1) H_7 _ _ (by omega) (by omega) hW hP hD hS (lv_sub hl [0, 1, 2] rfl)
  exact key_2 ((n11 - 1) + 1) (n11 - 1) s.heap _ _ (by omega) (by omega) hW hP hD hS (lv_sub hl [0, 1, 2] rfl)
set_option maxHeartbeats 4000000 in
set_option maxRecDepth 100000 in
theorem r_X13_hidden (l : Launch) (D : va_G) (cy : Nat → ClassId) (K : Kp) (L : List Nat) (M : Hp) (sz : Nat) (za : Nat) (z0 : Int32) (z1 : Nat) (z2 : Nat) (z3 : Nat) (z4 : Int32) (z5 : Int32) (z6 : Nat) (z7 : Nat) (z8 : Nat) (z9 : Nat) (z10 : Nat) (z11 : Nat) (z12 : Nat) (z13 : Nat) (z14 : Nat) (z15 : Nat) (z16 : Nat) (z17 : Nat) (z18 : Int32) (z19 : Nat) (k1 : Int32) (k2 : Int32) (k3 : Int32) (hW : WOM cy K L M) (i1 : isk K L z1 23 8) (b2 : z2 ≤ 8) (b3 : z3 ≤ 40) (i6 : isk K L z6 47 40) (i7 : isk K L z7 48 40) (i8 : isk K L z8 49 8) (i9 : isk K L z9 50 8) (b10 : z10 ≤ 8) (i11 : isk K L z11 32 24) (i12 : isk K L z12 14 24) (i13 : isk K L z13 15 24) (i14 : isk K L z14 15 24) (i15 : isk K L z15 15 24) (b16 : z16 ≤ 24) (i17 : isk K L z17 14 24) (i19 : isk K L z19 15 25) (hRL : RLI cy K L M) : Met l yX13_hidden (wsM yX13_hidden cX13_hidden 6 (some .int)) ({ frames := 3, cells := 0, slots := 0, locals := 78 }) (va_Pc [.ref za, .int k1, .int k2, .int k3] (PG D cy [(za, .inr (13, [.int z0, .ref z1, .int (nI z2), .int (nI z3), .int z4, .int z5, .ref z6, .ref z7, .ref z8, .ref z9, .int (nI z10), .ref z11, .ref z12, .ref z13, .ref z14, .ref z15, .int (nI z16), .ref z17, .int z18, .ref z19]))] L M sz)) (va_Qi (fun (r : Int32) (M9 : Hp) => WOM cy K L M9 ∧ fr K L [14, 15, 32] M M9 ∧ (True)) (fun M9 t => ∃ (w4 : Int32) (w5 : Int32) (w16 : Nat), w16 ≤ 24 ∧ PQ D [(za, .inr (13, [.int 0, .ref z1, .int (nI z2), .int (nI z3), .int w4, .int w5, .ref z6, .ref z7, .ref z8, .ref z9, .int (nI z10), .ref z11, .ref z12, .ref z13, .ref z14, .ref z15, .int (nI w16), .ref z17, .int z18, .ref z19]))] L M9 (va_A ([(za, .inr (13, [.int z0, .ref z1, .int (nI z2), .int (nI z3), .int z4, .int z5, .ref z6, .ref z7, .ref z8, .ref z9, .int (nI z10), .ref z11, .ref z12, .ref z13, .ref z14, .ref z15, .int (nI z16), .ref z17, .int z18, .ref z19]))] ++ va_pl L M) sz) t) (va_A ([(za, .inr (13, [.int z0, .ref z1, .int (nI z2), .int (nI z3), .int z4, .int z5, .ref z6, .ref z7, .ref z8, .ref z9, .int (nI z10), .ref z11, .ref z12, .ref z13, .ref z14, .ref z15, .int (nI z16), .ref z17, .int z18, .ref z19]))] ++ va_pl L M) sz)) 0 0 (va_A ([(za, .inr (13, [.int z0, .ref z1, .int (nI z2), .int (nI z3), .int z4, .int z5, .ref z6, .ref z7, .ref z8, .ref z9, .int (nI z10), .ref z11, .ref z12, .ref z13, .ref z14, .ref z15, .int (nI z16), .ref z17, .int z18, .ref z19]))] ++ va_pl L M) sz) := by
  refine Met.ofW (cc := cX13_hidden) (maxL := 6) (ret := (some .int)) (by decide) rfl ?_
  intro p e s m args below meth c s₁ B hml hv
  obtain ⟨rfl, hsz, hP, hK, hD0, hN⟩ := hv
  have hx := B.exec
  have hb := B.bytes
  have hr := B.returns
  have hts := atoms_spec (ws := (wsM yX13_hidden cX13_hidden 6 (some .int))) B.pre
  have hg : ∀ w ∈ lw_good, w.before _ s = true := fun w h => hts w (List.mem_cons_of_mem _ h)
  have hown : s.vm.findClass RX13 = some m.cls := findClass_of_methodNamed B.named
  have hlocks := B.notSynchronized
  subst hsz
  have hD := hD0.self (sz := s.heap.size)
  generalize hAe : va_A ([(za, .inr (13, [.int z0, .ref z1, .int (nI z2), .int (nI z3), .int z4, .int z5, .ref z6, .ref z7, .ref z8, .ref z9, .int (nI z10), .ref z11, .ref z12, .ref z13, .ref z14, .ref z15, .int (nI z16), .ref z17, .int z18, .ref z19]))] ++ va_pl L M) s.heap.size = A at hD ⊢
  have hA : ∀ q : Nat, s.heap.size ≤ q → A q := fun q h => by rw [← hAe]; exact Or.inr h
  have hS : va_S A s.heap s.heap [] := va_S.rf
  have hl := lv_entry ([.ref za, .int k1, .int k2, .int k3]) (n := 6) (Nat.le_of_ble_eq_true rfl)
  rw [lg_entry_eq]
  generalize (lg_sl ([.ref za, .int k1, .int k2, .int k3]) ++ List.replicate (6 - (lg_sl ([.ref za, .int k1, .int k2, .int k3])).length) Slot.unset).toArray = ls at hl ⊢
  refine W.nameQ (fun Q hQ => ?_)
  refine W.nameR (fun R hR => ?_)
  have hRf : 3 ≤ R.frames := by rw [hR]; exact Nat.le_of_ble_eq_true rfl
  have hRl : 78 ≤ R.locals := by rw [hR]; exact Nat.le_of_ble_eq_true rfl
  have hRc : 0 ≤ R.cells := by rw [hR]; exact Nat.le_of_ble_eq_true rfl
  have hRs : 0 ≤ R.slots := by rw [hR]; exact Nat.le_of_ble_eq_true rfl
  have hF : fr K L [14, 15, 32] M M := fr.rf
  have hl : lv_has ls 6 [(0, .ref za), (1, .int k1), (2, .int k2), (3, .int k3)] := hl
  have hW0 := hW
  refine lv_aload_n hx hb dX13_hidden_0 rfl (lv_at hl 0 rfl) ?_
  refine lv_iconst (v := 0) hx hb dX13_hidden_1 (by decide) ?_
  refine va_put (D := D) (ci := 13) (v := .int 0) (ty := .int) (C := RX13) (T := TX13) (N := 20) hx hb hg inG13 tyX13 tyX13_ok nmX13 hown hK hP hD hS 0 rfl rfl 0 (by decide) (hg _ wd_720) (fun _ h9 => h9) rfl (by decide +kernel) rfl rfl (Nat.le_of_ble_eq_true rfl) dX13_hidden_2 (fun H_1 locs hP hD hS => ?_)
  have hP : va_P D vwCl ([(za, .inr (13, [.int 0, .ref z1, .int (nI z2), .int (nI z3), .int z4, .int z5, .ref z6, .ref z7, .ref z8, .ref z9, .int (nI z10), .ref z11, .ref z12, .ref z13, .ref z14, .ref z15, .int (nI z16), .ref z17, .int z18, .ref z19]))] ++ va_pl L M) H_1 := hP
  have hD : va_D A ([(za, .inr (13, [.int 0, .ref z1, .int (nI z2), .int (nI z3), .int z4, .int z5, .ref z6, .ref z7, .ref z8, .ref z9, .int (nI z10), .ref z11, .ref z12, .ref z13, .ref z14, .ref z15, .int (nI z16), .ref z17, .int z18, .ref z19]))] ++ va_pl L M) := hD
  refine lv_aload_n hx hb dX13_hidden_5 rfl (lv_at hl 0 rfl) ?_
  refine lv_iload_n hx hb dX13_hidden_6 rfl (lv_at hl 1 rfl) ?_
  have hPc : va_P D vwCl ([(za, .inr (13, [.int 0, .ref z1, .int (nI z2), .int (nI z3), .int z4, .int z5, .ref z6, .ref z7, .ref z8, .ref z9, .int (nI z10), .ref z11, .ref z12, .ref z13, .ref z14, .ref z15, .int (nI z16), .ref z17, .int z18, .ref z19]))] ++ va_pl L M) H_1 := hP
  have hDc : va_D A ([(za, .inr (13, [.int 0, .ref z1, .int (nI z2), .int (nI z3), .int z4, .int z5, .ref z6, .ref z7, .ref z8, .ref z9, .int (nI z10), .ref z11, .ref z12, .ref z13, .ref z14, .ref z15, .int (nI z16), .ref z17, .int z18, .ref z19]))] ++ va_pl L M) := hD
  have hFc : ∀ q, va_A ([(za, .inr (13, [.int 0, .ref z1, .int (nI z2), .int (nI z3), .int z4, .int z5, .ref z6, .ref z7, .ref z8, .ref z9, .int (nI z10), .ref z11, .ref z12, .ref z13, .ref z14, .ref z15, .int (nI z16), .ref z17, .int z18, .ref z19]))] ++ va_pl L M) H_1.size q → A q := pg_free hDc hS hA
  refine va_calli (va_runV (As := [.int k1]) (rest := []) ⟨hx, hb, hml, hown, hg⟩ (r_X13_isHouse l D cy K L M H_1.size za 0 z1 z2 z3 z4 z5 z6 z7 z8 z9 z10 z11 z12 z13 z14 z15 z16 z17 z18 z19 k1  hW i1 b2 b3 i6 i7 i8 i9 b10 i11 i12 i13 i14 i15 b16 i17 i19) (cwV 1 hg (gV wd_714 wd_715 wd_716 wd_717 wd_718) rfl rfl rfl (by decide +kernel) ⟨(Nat.le_trans (Nat.le_of_ble_eq_true rfl) hRf), (Nat.le_trans (Nat.le_of_ble_eq_true rfl) hRl)⟩) ⟨PG.blind, va_recv hK hP (ci := 13) (q0 := 0) rfl rfl, fun U hU hW => ⟨rfl, PG.at hPc hK hDc hN hU hW⟩⟩ rfl rfl hl.1 rfl (lv_room (Nat.le_of_ble_eq_true rfl)) dX13_hidden_7 ⟨(Nat.le_trans (Nat.le_of_ble_eq_true rfl) hRc), (Nat.le_trans (Nat.le_of_ble_eq_true rfl) hRs)⟩) hS (fun q _ h => hFc q h) hFc (fun r_3 M_4 t H_2 locs ht hvm hw hB hz1 hk1 hS => ?_)
  have hp_5 := hw
  obtain ⟨hP1, hD1⟩ := hB
  rw [ht] at hP1
  have hP : va_P D vwCl ([(za, .inr (13, [.int 0, .ref z1, .int (nI z2), .int (nI z3), .int z4, .int z5, .ref z6, .ref z7, .ref z8, .ref z9, .int (nI z10), .ref z11, .ref z12, .ref z13, .ref z14, .ref z15, .int (nI z16), .ref z17, .int z18, .ref z19]))] ++ va_pl L M) H_2 := hP1
  have hD : va_D A ([(za, .inr (13, [.int 0, .ref z1, .int (nI z2), .int (nI z3), .int z4, .int z5, .ref z6, .ref z7, .ref z8, .ref z9, .int (nI z10), .ref z11, .ref z12, .ref z13, .ref z14, .ref z15, .int (nI z16), .ref z17, .int z18, .ref z19]))] ++ va_pl L M) := hD1.mono hFc
  rcases hp_5 with ⟨rfl, c_6, c_7⟩ | rfl
  · have hz := rfl (a := 0)
    refine lv_if_eq (tgt := 25) hx hb dX13_hidden_10 (by decide) (fun c_8 => absurd c_8 (by decide)) (fun _ => ?_)
    refine lv_aload_n hx hb dX13_hidden_13 rfl (lv_at hl 0 rfl) ?_
    refine va_get (D := D) (ci := 13) (v := .ref z1) (C := RX13) (T := TX13) (N := 20) hx hb hg inG13 hown hK hP 0 rfl rfl 1 (by decide) (hg _ wd_739) (fun _ h9 => h9) rfl dX13_hidden_14 ?_
    refine lv_iload_n hx hb dX13_hidden_17 rfl (lv_at hl 1 rfl) ?_
    obtain ⟨f9, hM9, hf9⟩ := hW.open_23 i1
    have hi_10 : vp_in k1 8 := (inbW (a := z2) (by omega) (inb k1 z2 (by omega) c_6 c_7))
    refine pg_aldq hx hb hK hP i1.1 9 hM9 rfl hi_10 dX13_hidden_18 ?_
    obtain ⟨b11, eb_12, hb_13⟩ := hf9 _ (vp_lt hi_10)
    rw [eb_12]
    obtain ⟨fs14, hM14, hn14, hl14⟩ := hW.open_12 hb_13
    obtain ⟨v15, hv15, hc15⟩ : ∃ v : Nat, fs14[11]? = some (.int (nI v) : Value) ∧ v ≤ 16 := hl14 11 (by decide)
    refine pg_getN (D := D) (ci := 12) (v := .int (nI v15)) (C := RX12) (T := TX12) (N := 51) hx hb hg inG12 hown hK hP hb_13.1 hM14 rfl 11 (by decide) (hN.use (Cond.fieldLinkNest RX13 142 RX12 "rules" "I" RX13) 20 rfl rfl) (fun _ h9 => h9) hv15 dX13_hidden_19 ?_
    refine lv_if_ne (tgt := 31) hx hb dX13_hidden_22 (by decide) (fun c_16 => ?_) (fun c_16 => ?_)
    · have hz := rfl (a := 0)
      have n_17 : ¬ (v15 = 0) := fun q => c_16 ((iEQ (a := v15) (b := 0) (by omega) (by omega)).mpr q)
      refine lv_iload_n hx hb dX13_hidden_31 rfl (lv_at hl 3 rfl) ?_
      have hPc : va_P D vwCl ([] ++ va_pl L M) H_2 := hP.part (cx := []) [] rfl
      have hDc : va_D A ([] ++ va_pl L M) := hD.part (cx := []) [] (by decide) rfl
      have hFc : ∀ q, va_A ([] ++ va_pl L M) H_2.size q → A q := pg_free hDc hS hA
      refine va_calli (va_runS (As := [.int k3]) (rest := []) ⟨hx, hb, hml, hown, hg⟩ (r_X13_isSum l D cy K L M H_2.size k3  hW ) (va_cwS 1 hg (gS wd_774 wd_775 wd_717 wd_776) rfl rfl rfl (by decide +kernel) ⟨(Nat.le_trans (Nat.le_of_ble_eq_true rfl) hRf), (Nat.le_trans (Nat.le_of_ble_eq_true rfl) hRl)⟩) ⟨PG.blind, fun U hU hW => ⟨rfl, PG.at hPc hK hDc hN hU hW⟩⟩ rfl rfl hl.1 rfl (lv_room (Nat.le_of_ble_eq_true rfl)) dX13_hidden_32 ⟨(Nat.le_trans (Nat.le_of_ble_eq_true rfl) hRc), (Nat.le_trans (Nat.le_of_ble_eq_true rfl) hRs)⟩) hS (fun q _ h => hFc q h) hFc (fun r_19 M_20 t H_18 locs ht hvm hw hB hz1 hk1 hS => ?_)
      have hp_21 := hw
      obtain ⟨hP1, hD1⟩ := hB
      rw [ht] at hP1
      obtain ⟨hP, hD⟩ := va_joinP (X := [(za, .inr (13, [.int 0, .ref z1, .int (nI z2), .int (nI z3), .int z4, .int z5, .ref z6, .ref z7, .ref z8, .ref z9, .int (nI z10), .ref z11, .ref z12, .ref z13, .ref z14, .ref z15, .int (nI z16), .ref z17, .int z18, .ref z19]))]) (cx := []) (wr := [(za, .inr (13, [.int 0, .ref z1, .int (nI z2), .int (nI z3), .int z4, .int z5, .ref z6, .ref z7, .ref z8, .ref z9, .int (nI z10), .ref z11, .ref z12, .ref z13, .ref z14, .ref z15, .int (nI z16), .ref z17, .int z18, .ref z19]))]) (rx := []) (pl := va_pl L M) (pl1 := va_pl L M) hP hD [] [0] rfl rfl (by decide) (by decide) hk1 hFc hP1 hD1
      have hP : va_P D vwCl ([(za, .inr (13, [.int 0, .ref z1, .int (nI z2), .int (nI z3), .int z4, .int z5, .ref z6, .ref z7, .ref z8, .ref z9, .int (nI z10), .ref z11, .ref z12, .ref z13, .ref z14, .ref z15, .int (nI z16), .ref z17, .int z18, .ref z19]))] ++ va_pl L M) H_18 := hP
      have hD : va_D A ([(za, .inr (13, [.int 0, .ref z1, .int (nI z2), .int (nI z3), .int z4, .int z5, .ref z6, .ref z7, .ref z8, .ref z9, .int (nI z10), .ref z11, .ref z12, .ref z13, .ref z14, .ref z15, .int (nI z16), .ref z17, .int z18, .ref z19]))] ++ va_pl L M) := hD
      rcases hp_21 with rfl | rfl
      · have hz := rfl (a := 0)
        refine lv_if_ne (tgt := 44) hx hb dX13_hidden_35 (by decide) (fun _ => ?_) (fun c_22 => absurd c_22 (by decide))
        refine lv_aload_n hx hb dX13_hidden_44 rfl (lv_at hl 0 rfl) ?_
        refine va_get (D := D) (ci := 13) (v := .ref z1) (C := RX13) (T := TX13) (N := 20) hx hb hg inG13 hown hK hP 0 rfl rfl 1 (by decide) (hg _ wd_739) (fun _ h9 => h9) rfl dX13_hidden_45 ?_
        refine lv_iload_n hx hb dX13_hidden_48 rfl (lv_at hl 1 rfl) ?_
        have hi_23 : vp_in k1 8 := (inbW (a := z2) (by omega) (inb k1 z2 (by omega) c_6 c_7))
        refine pg_aldq hx hb hK hP i1.1 9 hM9 rfl hi_23 dX13_hidden_49 ?_
        rw [show f9 (k1 : Int32).toNatClampNeg = some b11 from eb_12]
        refine lv_astore (lv' := [(4, .ref b11), (0, .ref za), (1, .int k1), (2, .int k2), (3, .int k3)]) hx hb dX13_hidden_50 hl (by decide) rfl (fun ls hl => ?_)
        refine lv_iload_n hx hb dX13_hidden_52 rfl (lv_at hl 3 rfl) ?_
        refine lv_aload hx hb dX13_hidden_53 (lv_at hl 0 rfl) ?_
        obtain ⟨v24, hv24, hc24⟩ : ∃ v : Nat, fs14[0]? = some (.int (nI v) : Value) ∧ v ≤ 999 := hl14 0 (by decide)
        refine pg_getN (D := D) (ci := 12) (v := .int (nI v24)) (C := RX12) (T := TX12) (N := 51) hx hb hg inG12 hown hK hP hb_13.1 hM14 rfl 0 (by decide) (hN.use (Cond.fieldLinkNest RX13 77 RX12 "first" "I" RX13) 9 rfl rfl) (fun _ h9 => h9) hv24 dX13_hidden_55 ?_
        refine lv_icmp_lt (tgt := 68) hx hb dX13_hidden_58 (by decide) (fun c_25 => ?_) (fun c_25 => ?_)
        · have hz := rfl (a := 0)
          have n_26 : ¬ 999 ≤ k2 := ltB (b := 999) (by decide) hc24 c_25
          refine lv_aload_n hx hb dX13_hidden_68 rfl (lv_at hl 1 rfl) ?_
          refine lv_iconst (v := 3) hx hb dX13_hidden_69 (by decide) ?_
          have hPc := hP.sub (ws' := [(za, .inr (13, [.int 0, .ref z1, .int (nI z2), .int (nI z3), .int z4, .int z5, .ref z6, .ref z7, .ref z8, .ref z9, .int (nI z10), .ref z11, .ref z12, .ref z13, .ref z14, .ref z15, .int (nI z16), .ref z17, .int z18, .ref z19]))]) [0] rfl
          have hDc := hD.sub (ws' := [(za, .inr (13, [.int 0, .ref z1, .int (nI z2), .int (nI z3), .int z4, .int z5, .ref z6, .ref z7, .ref z8, .ref z9, .int (nI z10), .ref z11, .ref z12, .ref z13, .ref z14, .ref z15, .int (nI z16), .ref z17, .int z18, .ref z19]))]) [0] (by decide) rfl
          have hKc := hK.sub (tys' := []) [] rfl
          have hFc := va_free (wc := [(za, .inr (13, [.int 0, .ref z1, .int (nI z2), .int (nI z3), .int z4, .int z5, .ref z6, .ref z7, .ref z8, .ref z9, .int (nI z10), .ref z11, .ref z12, .ref z13, .ref z14, .ref z15, .int (nI z16), .ref z17, .int z18, .ref z19]))]) hD hS hA [0] rfl
          refine va_calli (va_runV (As := [.int 3]) (rest := []) ⟨hx, hb, hml, hown, hg⟩ (m_refused l D H_18.size za 0 z1 (nI z2) (nI z3) z4 z5 z6 z7 z8 z9 (nI z10) z11 z12 z13 z14 z15 (nI z16) z17 z18 z19 3) (cwV 1 hg (gV wd_725 wd_726 wd_727 wd_717 wd_728) rfl rfl rfl (by decide +kernel) ⟨(Nat.le_trans (Nat.le_of_ble_eq_true rfl) hRf), (Nat.le_trans (Nat.le_of_ble_eq_true rfl) hRl)⟩) ⟨Pr.blind, va_recv hK hP (ci := 13) (q0 := 0) rfl rfl, fun U hU hW => ⟨rfl, Pr.at hPc hKc hDc hN hU hW⟩⟩ rfl rfl hl.1 rfl (lv_room (Nat.le_of_ble_eq_true rfl)) dX13_hidden_70 ⟨(Nat.le_trans (Nat.le_of_ble_eq_true rfl) hRc), (Nat.le_trans (Nat.le_of_ble_eq_true rfl) hRs)⟩) hS (fun q _ h => hFc q h) hFc (fun r_28 M_29 t H_27 locs ht hvm hw hB hz1 hk1 hS => ?_)
          have hp_30 := hw
          obtain ⟨hP1, hK1, hD1⟩ := hB
          rw [ht] at hP1
          obtain ⟨hP, hD⟩ := va_joinQ (X := [(za, .inr (13, [.int 0, .ref z1, .int (nI z2), .int (nI z3), .int z4, .int z5, .ref z6, .ref z7, .ref z8, .ref z9, .int (nI z10), .ref z11, .ref z12, .ref z13, .ref z14, .ref z15, .int (nI z16), .ref z17, .int z18, .ref z19]))]) (cx := [(za, .inr (13, [.int 0, .ref z1, .int (nI z2), .int (nI z3), .int z4, .int z5, .ref z6, .ref z7, .ref z8, .ref z9, .int (nI z10), .ref z11, .ref z12, .ref z13, .ref z14, .ref z15, .int (nI z16), .ref z17, .int z18, .ref z19]))]) (wr := []) (w1 := [(za, .inr (13, [.int 0, .ref z1, .int (nI z2), .int (nI z3), .int 3, .int (-1), .ref z6, .ref z7, .ref z8, .ref z9, .int (nI z10), .ref z11, .ref z12, .ref z13, .ref z14, .ref z15, .int (nI z16), .ref z17, .int z18, .ref z19]))]) (pl := va_pl L M) hP hD [0] [] rfl rfl (by decide) (by decide) hk1 hFc hP1 hD1
          have hP : va_P D vwCl ([(za, .inr (13, [.int 0, .ref z1, .int (nI z2), .int (nI z3), .int 3, .int (-1), .ref z6, .ref z7, .ref z8, .ref z9, .int (nI z10), .ref z11, .ref z12, .ref z13, .ref z14, .ref z15, .int (nI z16), .ref z17, .int z18, .ref z19]))] ++ va_pl L M) H_27 := hP
          have hD : va_D A ([(za, .inr (13, [.int 0, .ref z1, .int (nI z2), .int (nI z3), .int 3, .int (-1), .ref z6, .ref z7, .ref z8, .ref z9, .int (nI z10), .ref z11, .ref z12, .ref z13, .ref z14, .ref z15, .int (nI z16), .ref z17, .int z18, .ref z19]))] ++ va_pl L M) := hD
          have hq := Eq.symm hp_30
          subst hq
          rw [hQ]
          exact W.iret (v := (-1)) hx hb hr (fun t ht hW9 => ⟨⟨(-1), M, rfl, ⟨hW, hF, trivial⟩, ⟨3, (-1), z16, (by omega), by rw [ht]; exact hP, hD⟩⟩, hS.F ht⟩) hS.2.2 dX13_hidden_73
        · have hz := rfl (a := 0)
          refine lv_iload_n hx hb dX13_hidden_61 rfl (lv_at hl 3 rfl) ?_
          refine lv_sipush (v := 1000) hx hb dX13_hidden_62 (by decide) ?_
          refine lv_icmp_lt (tgt := 74) hx hb dX13_hidden_65 (by decide) (fun c_31 => ?_) (fun c_31 => ?_)
          · have hz := rfl (a := 0)
            refine lv_aload_n hx hb dX13_hidden_74 rfl (lv_at hl 1 rfl) ?_
            refine lv_aload hx hb dX13_hidden_75 (lv_at hl 0 rfl) ?_
            refine lv_iload_n hx hb dX13_hidden_77 rfl (lv_at hl 3 rfl) ?_
            have hPc : va_P D vwCl ([(za, .inr (13, [.int 0, .ref z1, .int (nI z2), .int (nI z3), .int z4, .int z5, .ref z6, .ref z7, .ref z8, .ref z9, .int (nI z10), .ref z11, .ref z12, .ref z13, .ref z14, .ref z15, .int (nI z16), .ref z17, .int z18, .ref z19]))] ++ va_pl L M) H_18 := hP
            have hDc : va_D A ([(za, .inr (13, [.int 0, .ref z1, .int (nI z2), .int (nI z3), .int z4, .int z5, .ref z6, .ref z7, .ref z8, .ref z9, .int (nI z10), .ref z11, .ref z12, .ref z13, .ref z14, .ref z15, .int (nI z16), .ref z17, .int z18, .ref z19]))] ++ va_pl L M) := hD
            have hFc : ∀ q, va_A ([(za, .inr (13, [.int 0, .ref z1, .int (nI z2), .int (nI z3), .int z4, .int z5, .ref z6, .ref z7, .ref z8, .ref z9, .int (nI z10), .ref z11, .ref z12, .ref z13, .ref z14, .ref z15, .int (nI z16), .ref z17, .int z18, .ref z19]))] ++ va_pl L M) H_18.size q → A q := pg_free hDc hS hA
            refine va_callv (va_runV (As := [.ref b11, .int k2]) (rest := []) ⟨hx, hb, hml, hown, hg⟩ (r_X13_present l D cy K L M H_18.size za 0 z1 z2 z3 z4 z5 z6 z7 z8 z9 z10 z11 z12 z13 z14 z15 z16 z17 z18 z19 b11 k2  hW i1 b2 b3 i6 i7 i8 i9 b10 i11 i12 i13 i14 i15 b16 i17 i19 hb_13) (cwV 2 hg (gV wd_811 wd_812 wd_813 wd_717 wd_814) rfl rfl rfl (by decide +kernel) ⟨(Nat.le_trans (Nat.le_of_ble_eq_true rfl) hRf), (Nat.le_trans (Nat.le_of_ble_eq_true rfl) hRl)⟩) ⟨PG.blind, va_recv hK hP (ci := 13) (q0 := 0) rfl rfl, fun U hU hW => ⟨rfl, PG.at hPc hK hDc hN hU hW⟩⟩ rfl rfl hl.1 rfl (lv_room (Nat.le_of_ble_eq_true rfl)) dX13_hidden_78 ⟨(Nat.le_trans (Nat.le_of_ble_eq_true rfl) hRc), (Nat.le_trans (Nat.le_of_ble_eq_true rfl) hRs)⟩) hS (fun q _ h => hFc q h) hFc (fun M_34 t H_32 locs ht hvm hw hB hz1 hk1 hS => ?_)
            obtain ⟨hW, hF2, hp_35⟩ := hw
            obtain ⟨w16_36, hg_37, hP1, hD1⟩ := hB
            rw [ht] at hP1
            have hP : va_P D vwCl ([(za, .inr (13, [.int 0, .ref z1, .int (nI z2), .int (nI z3), .int z4, .int z5, .ref z6, .ref z7, .ref z8, .ref z9, .int (nI z10), .ref z11, .ref z12, .ref z13, .ref z14, .ref z15, .int (nI w16_36), .ref z17, .int z18, .ref z19]))] ++ va_pl L M_34) H_32 := hP1
            have hD : va_D A ([(za, .inr (13, [.int 0, .ref z1, .int (nI z2), .int (nI z3), .int z4, .int z5, .ref z6, .ref z7, .ref z8, .ref z9, .int (nI z10), .ref z11, .ref z12, .ref z13, .ref z14, .ref z15, .int (nI w16_36), .ref z17, .int z18, .ref z19]))] ++ va_pl L M_34) := hD1.mono hFc
            have hM_38 : M_34 z1 = .inl (cy 23, 8, .inr (.inr (.inr (.inr (f9))))) := (hF2.at i1 (by decide)).trans hM9
            have hM_39 : M_34 b11 = .inr (12, fs14) := (hF2.at hb_13 (by decide)).trans hM14
            have hF : fr K L [14, 15, 32] M M_34 := hF.tr hF2 (by decide)
            refine lv_aload_n hx hb dX13_hidden_81 rfl (lv_at hl 1 rfl) ?_
            refine lv_aload hx hb dX13_hidden_82 (lv_at hl 0 rfl) ?_
            refine lv_aload hx hb dX13_hidden_84 (lv_at hl 0 rfl) ?_
            refine lv_iload_n hx hb dX13_hidden_86 rfl (lv_at hl 3 rfl) ?_
            have hPc : va_P D vwCl ([] ++ va_pl L M_34) H_32 := hP.part (cx := []) [] rfl
            have hDc : va_D A ([] ++ va_pl L M_34) := hD.part (cx := []) [] (by decide) rfl
            have hFc : ∀ q, va_A ([] ++ va_pl L M_34) H_32.size q → A q := pg_free hDc hS hA
            refine va_calli (va_runV (As := [.int k2]) (rest := [.ref b11, .ref za]) ⟨hx, hb, hml, hown, hg⟩ (r_ruleOnP l D cy K L M_34 H_32.size b11 k2  hW hb_13 (RLD.of hW (RLI.fr hW0 hRL hF (by decide) (by decide)) hb_13 hM_39 hv15 (by omega) hc15 hv24 (Int32.not_lt.mp c_25))) (cwV 1 hg (gV wd_815 wd_816 wd_817 wd_737 wd_818) rfl rfl rfl (by decide +kernel) ⟨(Nat.le_trans (Nat.le_of_ble_eq_true rfl) hRf), (Nat.le_trans (Nat.le_of_ble_eq_true rfl) hRl)⟩) ⟨PG.blind, pg_recv hK hP hb_13.1 hM_39 rfl, fun U hU hW => ⟨rfl, PG.at hPc hK hDc hN hU hW⟩⟩ rfl rfl hl.1 rfl (lv_room (Nat.le_of_ble_eq_true rfl)) dX13_hidden_87 ⟨(Nat.le_trans (Nat.le_of_ble_eq_true rfl) hRc), (Nat.le_trans (Nat.le_of_ble_eq_true rfl) hRs)⟩) hS (fun q _ h => hFc q h) hFc (fun r_41 M_42 t H_40 locs ht hvm hw hB hz1 hk1 hS => ?_)
            have hp_43 := hw
            obtain ⟨hP1, hD1⟩ := hB
            rw [ht] at hP1
            obtain ⟨hP, hD⟩ := va_joinP (X := [(za, .inr (13, [.int 0, .ref z1, .int (nI z2), .int (nI z3), .int z4, .int z5, .ref z6, .ref z7, .ref z8, .ref z9, .int (nI z10), .ref z11, .ref z12, .ref z13, .ref z14, .ref z15, .int (nI w16_36), .ref z17, .int z18, .ref z19]))]) (cx := []) (wr := [(za, .inr (13, [.int 0, .ref z1, .int (nI z2), .int (nI z3), .int z4, .int z5, .ref z6, .ref z7, .ref z8, .ref z9, .int (nI z10), .ref z11, .ref z12, .ref z13, .ref z14, .ref z15, .int (nI w16_36), .ref z17, .int z18, .ref z19]))]) (rx := []) (pl := va_pl L M_34) (pl1 := va_pl L M_34) hP hD [] [0] rfl rfl (by decide) (by decide) hk1 hFc hP1 hD1
            have hP : va_P D vwCl ([(za, .inr (13, [.int 0, .ref z1, .int (nI z2), .int (nI z3), .int z4, .int z5, .ref z6, .ref z7, .ref z8, .ref z9, .int (nI z10), .ref z11, .ref z12, .ref z13, .ref z14, .ref z15, .int (nI w16_36), .ref z17, .int z18, .ref z19]))] ++ va_pl L M_34) H_40 := hP
            have hD : va_D A ([(za, .inr (13, [.int 0, .ref z1, .int (nI z2), .int (nI z3), .int z4, .int z5, .ref z6, .ref z7, .ref z8, .ref z9, .int (nI z10), .ref z11, .ref z12, .ref z13, .ref z14, .ref z15, .int (nI w16_36), .ref z17, .int z18, .ref z19]))] ++ va_pl L M_34) := hD
            obtain ⟨j_44, rfl, c_45⟩ := hp_43
            refine lv_iconst (v := 2) hx hb dX13_hidden_90 (by decide) ?_
            have hPc : va_P D vwCl ([(za, .inr (13, [.int 0, .ref z1, .int (nI z2), .int (nI z3), .int z4, .int z5, .ref z6, .ref z7, .ref z8, .ref z9, .int (nI z10), .ref z11, .ref z12, .ref z13, .ref z14, .ref z15, .int (nI w16_36), .ref z17, .int z18, .ref z19]))] ++ va_pl L M_34) H_40 := hP
            have hDc : va_D A ([(za, .inr (13, [.int 0, .ref z1, .int (nI z2), .int (nI z3), .int z4, .int z5, .ref z6, .ref z7, .ref z8, .ref z9, .int (nI z10), .ref z11, .ref z12, .ref z13, .ref z14, .ref z15, .int (nI w16_36), .ref z17, .int z18, .ref z19]))] ++ va_pl L M_34) := hD
            have hFc : ∀ q, va_A ([(za, .inr (13, [.int 0, .ref z1, .int (nI z2), .int (nI z3), .int z4, .int z5, .ref z6, .ref z7, .ref z8, .ref z9, .int (nI z10), .ref z11, .ref z12, .ref z13, .ref z14, .ref z15, .int (nI w16_36), .ref z17, .int z18, .ref z19]))] ++ va_pl L M_34) H_40.size q → A q := pg_free hDc hS hA
            refine va_callv (va_runV (As := [.ref b11, .int (nI j_44), .int 2]) (rest := []) ⟨hx, hb, hml, hown, hg⟩ (r_X13_weights l D cy K L M_34 H_40.size za 0 z1 z2 z3 z4 z5 z6 z7 z8 z9 z10 z11 z12 z13 z14 z15 w16_36 z17 z18 z19 b11 j_44 2  hW i1 b2 b3 i6 i7 i8 i9 b10 i11 i12 i13 i14 i15 (by omega) i17 i19 hb_13 c_45 (by omega)) (cwV 3 hg (gV wd_795 wd_796 wd_797 wd_717 wd_798) rfl rfl rfl (by decide +kernel) ⟨(Nat.le_trans (Nat.le_of_ble_eq_true rfl) hRf), (Nat.le_trans (Nat.le_of_ble_eq_true rfl) hRl)⟩) ⟨PG.blind, va_recv hK hP (ci := 13) (q0 := 0) rfl rfl, fun U hU hW => ⟨rfl, PG.at hPc hK hDc hN hU hW⟩⟩ rfl rfl hl.1 rfl (lv_room (Nat.le_of_ble_eq_true rfl)) dX13_hidden_91 ⟨(Nat.le_trans (Nat.le_of_ble_eq_true rfl) hRc), (Nat.le_trans (Nat.le_of_ble_eq_true rfl) hRs)⟩) hS (fun q _ h => hFc q h) hFc (fun M_48 t H_46 locs ht hvm hw hB hz1 hk1 hS => ?_)
            obtain ⟨hW, hF2, hp_49⟩ := hw
            obtain ⟨hP1, hD1⟩ := hB
            rw [ht] at hP1
            have hP : va_P D vwCl ([(za, .inr (13, [.int 0, .ref z1, .int (nI z2), .int (nI z3), .int z4, .int z5, .ref z6, .ref z7, .ref z8, .ref z9, .int (nI z10), .ref z11, .ref z12, .ref z13, .ref z14, .ref z15, .int (nI w16_36), .ref z17, .int z18, .ref z19]))] ++ va_pl L M_48) H_46 := hP1
            have hD : va_D A ([(za, .inr (13, [.int 0, .ref z1, .int (nI z2), .int (nI z3), .int z4, .int z5, .ref z6, .ref z7, .ref z8, .ref z9, .int (nI z10), .ref z11, .ref z12, .ref z13, .ref z14, .ref z15, .int (nI w16_36), .ref z17, .int z18, .ref z19]))] ++ va_pl L M_48) := hD1.mono hFc
            have hM_50 : M_48 z1 = .inl (cy 23, 8, .inr (.inr (.inr (.inr (f9))))) := (hF2.at i1 (by decide)).trans hM_38
            have hM_51 : M_48 b11 = .inr (12, fs14) := (hF2.at hb_13 (by decide)).trans hM_39
            have hF : fr K L [14, 15, 32] M M_48 := hF.tr hF2 (by decide)
            refine lv_aload_n hx hb dX13_hidden_94 rfl (lv_at hl 1 rfl) ?_
            refine lv_iload_n hx hb dX13_hidden_95 rfl (lv_at hl 4 rfl) ?_
            refine lv_i2l hx hb dX13_hidden_96 rfl ?_
            refine lv_topl (fun f_52 ef_52 => ?_)
            refine lv_aload_n hx hb dX13_hidden_97 rfl (lv_at hl 1 rfl) ?_
            refine va_get (D := D) (ci := 13) (v := .ref z13) (C := RX13) (T := TX13) (N := 20) hx hb hg inG13 hown hK hP 0 rfl rfl 13 (by decide) (hg _ wd_789) (fun _ h9 => h9) rfl dX13_hidden_98 ?_
            refine lv_iconst (v := 0) hx hb dX13_hidden_101 (by decide) ?_
            refine lv_aload hx hb dX13_hidden_102 (lv_at hl 0 rfl) ?_
            have hPc : va_P D vwCl ([(za, .inr (13, [.int 0, .ref z1, .int (nI z2), .int (nI z3), .int z4, .int z5, .ref z6, .ref z7, .ref z8, .ref z9, .int (nI z10), .ref z11, .ref z12, .ref z13, .ref z14, .ref z15, .int (nI w16_36), .ref z17, .int z18, .ref z19]))] ++ va_pl L M_48) H_46 := hP
            have hDc : va_D A ([(za, .inr (13, [.int 0, .ref z1, .int (nI z2), .int (nI z3), .int z4, .int z5, .ref z6, .ref z7, .ref z8, .ref z9, .int (nI z10), .ref z11, .ref z12, .ref z13, .ref z14, .ref z15, .int (nI w16_36), .ref z17, .int z18, .ref z19]))] ++ va_pl L M_48) := hD
            have hFc : ∀ q, va_A ([(za, .inr (13, [.int 0, .ref z1, .int (nI z2), .int (nI z3), .int z4, .int z5, .ref z6, .ref z7, .ref z8, .ref z9, .int (nI z10), .ref z11, .ref z12, .ref z13, .ref z14, .ref z15, .int (nI w16_36), .ref z17, .int z18, .ref z19]))] ++ va_pl L M_48) H_46.size q → A q := pg_free hDc hS hA
            refine va_calli (va_runV (As := [.long f_52, .ref z13, .int 0, .ref b11]) (rest := []) ⟨hx, hb, hml, hown, hg⟩ (r_X13_cut l D cy K L M_48 H_46.size za 0 z1 z2 z3 z4 z5 z6 z7 z8 z9 z10 z11 z12 z13 z14 z15 w16_36 z17 z18 z19 f_52 z13 0 b11  hW i1 b2 b3 i6 i7 i8 i9 b10 i11 i12 i13 i14 i15 (by omega) i17 i19 i13 hb_13) (cwV 4 hg (gV wd_790 wd_791 wd_792 wd_717 wd_793) rfl rfl rfl (by decide +kernel) ⟨(Nat.le_trans (Nat.le_of_ble_eq_true rfl) hRf), (Nat.le_trans (Nat.le_of_ble_eq_true rfl) hRl)⟩) ⟨PG.blind, va_recv hK hP (ci := 13) (q0 := 0) rfl rfl, fun U hU hW => ⟨rfl, PG.at hPc hK hDc hN hU hW⟩⟩ rfl rfl hl.1 rfl (lv_room (Nat.le_of_ble_eq_true rfl)) dX13_hidden_104 ⟨(Nat.le_trans (Nat.le_of_ble_eq_true rfl) hRc), (Nat.le_trans (Nat.le_of_ble_eq_true rfl) hRs)⟩) hS (fun q _ h => hFc q h) hFc (fun r_54 M_55 t H_53 locs ht hvm hw hB hz1 hk1 hS => ?_)
            obtain ⟨hW, hF2, hp_56⟩ := hw
            obtain ⟨hP1, hD1⟩ := hB
            rw [ht] at hP1
            have hP : va_P D vwCl ([(za, .inr (13, [.int 0, .ref z1, .int (nI z2), .int (nI z3), .int z4, .int z5, .ref z6, .ref z7, .ref z8, .ref z9, .int (nI z10), .ref z11, .ref z12, .ref z13, .ref z14, .ref z15, .int (nI w16_36), .ref z17, .int z18, .ref z19]))] ++ va_pl L M_55) H_53 := hP1
            have hD : va_D A ([(za, .inr (13, [.int 0, .ref z1, .int (nI z2), .int (nI z3), .int z4, .int z5, .ref z6, .ref z7, .ref z8, .ref z9, .int (nI z10), .ref z11, .ref z12, .ref z13, .ref z14, .ref z15, .int (nI w16_36), .ref z17, .int z18, .ref z19]))] ++ va_pl L M_55) := hD1.mono hFc
            have hM_57 : M_55 z1 = .inl (cy 23, 8, .inr (.inr (.inr (.inr (f9))))) := (hF2.at i1 (by decide)).trans hM_50
            have hM_58 : M_55 b11 = .inr (12, fs14) := (hF2.at hb_13 (by decide)).trans hM_51
            have hF : fr K L [14, 15, 32] M M_55 := hF.tr hF2 (by decide)
            rcases hp_56 with rfl | rfl
            · have hz := rfl (a := 0)
              refine lv_if_ne (tgt := 116) hx hb dX13_hidden_107 (by decide) (fun _ => ?_) (fun c_59 => absurd c_59 (by decide))
              refine lv_iconst (v := 0) hx hb dX13_hidden_116 (by decide) ?_
              refine lv_istore (lv' := [(5, .int 0), (4, .ref b11), (0, .ref za), (1, .int k1), (2, .int k2), (3, .int k3)]) hx hb dX13_hidden_117 hl (by decide) rfl (fun ls hl => ?_)
              have key_60 : ∀ (fu_62 : Nat) (v5w63 : Nat) (M_65 : Hp) (H_66 : Heap) (locs : List Loc) (ls : Array Slot), 24 - v5w63 < fu_62 → v5w63 ≤ 24 → WOM cy K L M_65 → fr K L [14, 15, 32] M M_65 → va_P D vwCl ([(za, .inr (13, [.int 0, .ref z1, .int (nI z2), .int (nI z3), .int z4, .int z5, .ref z6, .ref z7, .ref z8, .ref z9, .int (nI z10), .ref z11, .ref z12, .ref z13, .ref z14, .ref z15, .int (nI w16_36), .ref z17, .int z18, .ref z19]))] ++ va_pl L M_65) H_66 → va_D A ([(za, .inr (13, [.int 0, .ref z1, .int (nI z2), .int (nI z3), .int z4, .int z5, .ref z6, .ref z7, .ref z8, .ref z9, .int (nI z10), .ref z11, .ref z12, .ref z13, .ref z14, .ref z15, .int (nI w16_36), .ref z17, .int z18, .ref z19]))] ++ va_pl L M_65) → va_S A s.heap H_66 locs → lv_has ls 6 [(5, .int (nI v5w63)), (4, .ref b11), (0, .ref za), (1, .int k1), (2, .int k2), (3, .int k3)] → W p l e R s m ([.ref za, .int k1, .int k2, .int k3] : List Value).toArray below meth c H_66 locs 0 0 Q (F0 m 119 ls []) := by
                intro fu_62
                induction fu_62 with
                | zero => intro v5w63 M_65 H_66 locs ls h; exact absurd h (Nat.not_lt_zero _)
                | succ fu_62 ih_61 =>
                  intro v5w63 M_65 H_66 locs ls hfu hx_64 hW hF hP hD hS hl
                  refine lv_iload hx hb dX13_hidden_119 (lv_at hl 0 rfl) ?_
                  refine lv_aload_n hx hb dX13_hidden_121 rfl (lv_at hl 2 rfl) ?_
                  refine va_get (D := D) (ci := 13) (v := .int (nI w16_36)) (C := RX13) (T := TX13) (N := 20) hx hb hg inG13 hown hK hP 0 rfl rfl 16 (by decide) (hg _ wd_769) (fun _ h9 => h9) rfl dX13_hidden_122 ?_
                  refine lv_icmp_ge (tgt := 157) hx hb dX13_hidden_125 (by decide) (fun c_67 => ?_) (fun c_67 => ?_)
                  · have hz := rfl (a := 0)
                    have n_68 : w16_36 ≤ v5w63 := (iLE (a := w16_36) (b := v5w63) (by omega) (by omega)).mp c_67
                    refine lv_aload_n hx hb dX13_hidden_157 rfl (lv_at hl 2 rfl) ?_
                    refine lv_iload_n hx hb dX13_hidden_158 rfl (lv_at hl 5 rfl) ?_
                    have hPc := hP.sub (ws' := [(za, .inr (13, [.int 0, .ref z1, .int (nI z2), .int (nI z3), .int z4, .int z5, .ref z6, .ref z7, .ref z8, .ref z9, .int (nI z10), .ref z11, .ref z12, .ref z13, .ref z14, .ref z15, .int (nI w16_36), .ref z17, .int z18, .ref z19]))]) [0] rfl
                    have hDc := hD.sub (ws' := [(za, .inr (13, [.int 0, .ref z1, .int (nI z2), .int (nI z3), .int z4, .int z5, .ref z6, .ref z7, .ref z8, .ref z9, .int (nI z10), .ref z11, .ref z12, .ref z13, .ref z14, .ref z15, .int (nI w16_36), .ref z17, .int z18, .ref z19]))]) [0] (by decide) rfl
                    have hKc := hK.sub (tys' := []) [] rfl
                    have hFc := va_free (wc := [(za, .inr (13, [.int 0, .ref z1, .int (nI z2), .int (nI z3), .int z4, .int z5, .ref z6, .ref z7, .ref z8, .ref z9, .int (nI z10), .ref z11, .ref z12, .ref z13, .ref z14, .ref z15, .int (nI w16_36), .ref z17, .int z18, .ref z19]))]) hD hS hA [0] rfl
                    refine va_calli (va_runV (As := [.int k3]) (rest := []) ⟨hx, hb, hml, hown, hg⟩ (m_done l D H_66.size za 0 z1 (nI z2) (nI z3) z4 z5 z6 z7 z8 z9 (nI z10) z11 z12 z13 z14 z15 (nI w16_36) z17 z18 z19 k3) (cwV 1 hg (gV wd_730 wd_731 wd_732 wd_717 wd_733) rfl rfl rfl (by decide +kernel) ⟨(Nat.le_trans (Nat.le_of_ble_eq_true rfl) hRf), (Nat.le_trans (Nat.le_of_ble_eq_true rfl) hRl)⟩) ⟨Pr.blind, va_recv hK hP (ci := 13) (q0 := 0) rfl rfl, fun U hU hW => ⟨rfl, Pr.at hPc hKc hDc hN hU hW⟩⟩ rfl rfl hl.1 rfl (lv_room (Nat.le_of_ble_eq_true rfl)) dX13_hidden_159 ⟨(Nat.le_trans (Nat.le_of_ble_eq_true rfl) hRc), (Nat.le_trans (Nat.le_of_ble_eq_true rfl) hRs)⟩) hS (fun q _ h => hFc q h) hFc (fun r_70 M_71 t H_69 locs ht hvm hw hB hz1 hk1 hS => ?_)
                    have hp_72 := hw
                    obtain ⟨hP1, hK1, hD1⟩ := hB
                    rw [ht] at hP1
                    obtain ⟨hP, hD⟩ := va_joinQ (X := [(za, .inr (13, [.int 0, .ref z1, .int (nI z2), .int (nI z3), .int z4, .int z5, .ref z6, .ref z7, .ref z8, .ref z9, .int (nI z10), .ref z11, .ref z12, .ref z13, .ref z14, .ref z15, .int (nI w16_36), .ref z17, .int z18, .ref z19]))]) (cx := [(za, .inr (13, [.int 0, .ref z1, .int (nI z2), .int (nI z3), .int z4, .int z5, .ref z6, .ref z7, .ref z8, .ref z9, .int (nI z10), .ref z11, .ref z12, .ref z13, .ref z14, .ref z15, .int (nI w16_36), .ref z17, .int z18, .ref z19]))]) (wr := []) (w1 := [(za, .inr (13, [.int 0, .ref z1, .int (nI z2), .int (nI z3), .int 0, .int (-1), .ref z6, .ref z7, .ref z8, .ref z9, .int (nI z10), .ref z11, .ref z12, .ref z13, .ref z14, .ref z15, .int (nI w16_36), .ref z17, .int z18, .ref z19]))]) (pl := va_pl L M_65) hP hD [0] [] rfl rfl (by decide) (by decide) hk1 hFc hP1 hD1
                    have hP : va_P D vwCl ([(za, .inr (13, [.int 0, .ref z1, .int (nI z2), .int (nI z3), .int 0, .int (-1), .ref z6, .ref z7, .ref z8, .ref z9, .int (nI z10), .ref z11, .ref z12, .ref z13, .ref z14, .ref z15, .int (nI w16_36), .ref z17, .int z18, .ref z19]))] ++ va_pl L M_65) H_69 := hP
                    have hD : va_D A ([(za, .inr (13, [.int 0, .ref z1, .int (nI z2), .int (nI z3), .int 0, .int (-1), .ref z6, .ref z7, .ref z8, .ref z9, .int (nI z10), .ref z11, .ref z12, .ref z13, .ref z14, .ref z15, .int (nI w16_36), .ref z17, .int z18, .ref z19]))] ++ va_pl L M_65) := hD
                    have hq := Eq.symm hp_72
                    subst hq
                    rw [hQ]
                    exact W.iret (v := k3) hx hb hr (fun t ht hW9 => ⟨⟨k3, M_65, rfl, ⟨hW, hF, trivial⟩, ⟨0, (-1), w16_36, (by omega), by rw [ht]; exact hP, hD⟩⟩, hS.F ht⟩) hS.2.2 dX13_hidden_162
                  · have hz := rfl (a := 0)
                    have n_73 : ¬ (w16_36 ≤ v5w63) := fun q => c_67 ((iLE (a := w16_36) (b := v5w63) (by omega) (by omega)).mpr q)
                    refine lv_aload hx hb dX13_hidden_128 (lv_at hl 1 rfl) ?_
                    obtain ⟨fs74, hM74, hn74, hl74⟩ := hW.open_12 hb_13
                    obtain ⟨v75, hv75, hc75⟩ : ∃ v : Nat, fs74[28]? = some (.ref v : Value) ∧ isk K L v 15 24 := hl74 28 (by decide)
                    refine pg_getN (D := D) (ci := 12) (v := .ref v75) (C := RX12) (T := TX12) (N := 51) hx hb hg inG12 hown hK hP hb_13.1 hM74 rfl 28 (by decide) (hN.use (Cond.fieldLinkNest RX13 370 RX12 "hidden" "[J" RX13) 37 rfl rfl) (fun _ h9 => h9) hv75 dX13_hidden_130 ?_
                    refine lv_aload_n hx hb dX13_hidden_133 rfl (lv_at hl 2 rfl) ?_
                    refine va_get (D := D) (ci := 13) (v := .ref z11) (C := RX13) (T := TX13) (N := 20) hx hb hg inG13 hown hK hP 0 rfl rfl 11 (by decide) (hg _ wd_764) (fun _ h9 => h9) rfl dX13_hidden_134 ?_
                    refine lv_iload hx hb dX13_hidden_137 (lv_at hl 0 rfl) ?_
                    obtain ⟨f76, hM76, hf76⟩ := hW.open_32 i11
                    have hi_77 : vp_in (nI v5w63) 24 := (inbN v5w63 24 (by omega) (by omega))
                    refine pg_iald hx hb hK hP i11.1 0 hM76 rfl hi_77 dX13_hidden_139 ?_
                    have hp_78 := hf76 _ (vp_lt hi_77)
                    obtain ⟨c_79, hc_80, ec_81⟩ := hp_78
                    rw [ec_81]
                    refine lv_dup2_11 hx hb dX13_hidden_140 rfl rfl ?_
                    obtain ⟨f82, hM82⟩ := hW.open_15 hc75
                    refine pg_lald hx hb hK hP hc75.1 1 hM82 rfl (inbN c_79 24 (by omega) (by omega)) dX13_hidden_141 ?_
                    refine lv_topl (fun f_83 ef_83 => ?_)
                    refine lv_aload_n hx hb dX13_hidden_142 rfl (lv_at hl 2 rfl) ?_
                    refine va_get (D := D) (ci := 13) (v := .ref z13) (C := RX13) (T := TX13) (N := 20) hx hb hg inG13 hown hK hP 0 rfl rfl 13 (by decide) (hg _ wd_789) (fun _ h9 => h9) rfl dX13_hidden_143 ?_
                    refine lv_iload hx hb dX13_hidden_146 (lv_at hl 0 rfl) ?_
                    obtain ⟨f84, hM84⟩ := hW.open_15 i13
                    refine pg_lald hx hb hK hP i13.1 1 hM84 rfl (inbN v5w63 24 (by omega) (by omega)) dX13_hidden_148 ?_
                    refine lv_topl (fun f_85 ef_85 => ?_)
                    refine lv_ladd hx hb dX13_hidden_149 ?_
                    refine lv_topl (fun f_86 ef_86 => ?_)
                    refine pg_last hx hb hK hP hD hS hc75.1 1 hM82 rfl (inbN c_79 24 (by omega) (by omega)) dX13_hidden_150 (fun H_87 locs hP hD hS => ?_)
                    obtain ⟨M_88, eM_88⟩ : ∃ M1 : Hp, M1 = va_up M_65 v75 (.inl (cy 15, 24, .inr (.inl (vp_updL f82 ((nI c_79) : Int32).toNatClampNeg f_86)))) := ⟨_, rfl⟩
                    have hP : va_P D vwCl ([(za, .inr (13, [.int 0, .ref z1, .int (nI z2), .int (nI z3), .int z4, .int z5, .ref z6, .ref z7, .ref z8, .ref z9, .int (nI z10), .ref z11, .ref z12, .ref z13, .ref z14, .ref z15, .int (nI w16_36), .ref z17, .int z18, .ref z19]))] ++ va_pl L M_88) H_87 := by rw [eM_88]; exact hP
                    have hD : va_D A ([(za, .inr (13, [.int 0, .ref z1, .int (nI z2), .int (nI z3), .int z4, .int z5, .ref z6, .ref z7, .ref z8, .ref z9, .int (nI z10), .ref z11, .ref z12, .ref z13, .ref z14, .ref z15, .int (nI w16_36), .ref z17, .int z18, .ref z19]))] ++ va_pl L M_88) := by rw [eM_88]; exact hD
                    have hW : WOM cy K L M_88 := by rw [eM_88]; exact hW.up_15 hc75 ⟨_, rfl⟩
                    have hF : fr K L [14, 15, 32] M M_88 := by rw [eM_88]; exact hF.up hc75 (by decide)
                    have hM_89 : M_88 v75 = .inl (cy 15, 24, .inr (.inl (vp_updL f82 ((nI c_79) : Int32).toNatClampNeg f_86))) := by rw [eM_88]; exact va_up_self _ _ _
                    have hM_90 : M_88 b11 = .inr (12, fs74) := by rw [eM_88, va_up_ne _ _ (hb_13.neT hc75 (by decide))]; exact hM74
                    have hM_91 : M_88 z11 = .inl (cy 14, 24, .inl (f76)) := by rw [eM_88, va_up_ne _ _ (i11.neT hc75 (by decide))]; exact hM76
                    obtain ⟨f_92, ef_92⟩ : ∃ f : Nat → Int64, f = vp_updL f82 ((nI c_79) : Int32).toNatClampNeg f_86 := ⟨_, rfl⟩
                    rw [← ef_92] at hM_89
                    clear ef_92
                    refine lv_iinc (v := (nI (v5w63 + 1))) (lv' := [(5, .int (nI (v5w63 + 1))), (4, .ref b11), (0, .ref za), (1, .int k1), (2, .int k2), (3, .int k3)]) hx hb dX13_hidden_151 hl (k := 0) rfl (nI_1 v5w63) (by decide) rfl (fun ls hl => ?_)
                    refine lv_goto (tgt := 119) hx hb dX13_hidden_154 (by decide) ?_
                    exact ih_61 (v5w63 + 1) M_88 H_87 _ _ (by omega) (by omega) hW hF hP hD hS (lv_sub hl [0, 1, 2, 3, 4, 5] rfl)
              exact key_60 (24 - 0 + 1) 0 M_55 H_53 _ _ (by omega) (by omega) hW hF hP hD hS (lv_sub hl [0, 1, 2, 3, 4, 5] rfl)
            · have hz := rfl (a := 0)
              refine lv_if_ne (tgt := 116) hx hb dX13_hidden_107 (by decide) (fun c_93 => absurd c_93 (by decide)) (fun _ => ?_)
              refine lv_aload_n hx hb dX13_hidden_110 rfl (lv_at hl 1 rfl) ?_
              refine lv_iconst (v := 0) hx hb dX13_hidden_111 (by decide) ?_
              have hPc := hP.sub (ws' := [(za, .inr (13, [.int 0, .ref z1, .int (nI z2), .int (nI z3), .int z4, .int z5, .ref z6, .ref z7, .ref z8, .ref z9, .int (nI z10), .ref z11, .ref z12, .ref z13, .ref z14, .ref z15, .int (nI w16_36), .ref z17, .int z18, .ref z19]))]) [0] rfl
              have hDc := hD.sub (ws' := [(za, .inr (13, [.int 0, .ref z1, .int (nI z2), .int (nI z3), .int z4, .int z5, .ref z6, .ref z7, .ref z8, .ref z9, .int (nI z10), .ref z11, .ref z12, .ref z13, .ref z14, .ref z15, .int (nI w16_36), .ref z17, .int z18, .ref z19]))]) [0] (by decide) rfl
              have hKc := hK.sub (tys' := []) [] rfl
              have hFc := va_free (wc := [(za, .inr (13, [.int 0, .ref z1, .int (nI z2), .int (nI z3), .int z4, .int z5, .ref z6, .ref z7, .ref z8, .ref z9, .int (nI z10), .ref z11, .ref z12, .ref z13, .ref z14, .ref z15, .int (nI w16_36), .ref z17, .int z18, .ref z19]))]) hD hS hA [0] rfl
              refine va_calli (va_runV (As := [.int 0]) (rest := []) ⟨hx, hb, hml, hown, hg⟩ (m_done l D H_53.size za 0 z1 (nI z2) (nI z3) z4 z5 z6 z7 z8 z9 (nI z10) z11 z12 z13 z14 z15 (nI w16_36) z17 z18 z19 0) (cwV 1 hg (gV wd_730 wd_731 wd_732 wd_717 wd_733) rfl rfl rfl (by decide +kernel) ⟨(Nat.le_trans (Nat.le_of_ble_eq_true rfl) hRf), (Nat.le_trans (Nat.le_of_ble_eq_true rfl) hRl)⟩) ⟨Pr.blind, va_recv hK hP (ci := 13) (q0 := 0) rfl rfl, fun U hU hW => ⟨rfl, Pr.at hPc hKc hDc hN hU hW⟩⟩ rfl rfl hl.1 rfl (lv_room (Nat.le_of_ble_eq_true rfl)) dX13_hidden_112 ⟨(Nat.le_trans (Nat.le_of_ble_eq_true rfl) hRc), (Nat.le_trans (Nat.le_of_ble_eq_true rfl) hRs)⟩) hS (fun q _ h => hFc q h) hFc (fun r_95 M_96 t H_94 locs ht hvm hw hB hz1 hk1 hS => ?_)
              have hp_97 := hw
              obtain ⟨hP1, hK1, hD1⟩ := hB
              rw [ht] at hP1
              obtain ⟨hP, hD⟩ := va_joinQ (X := [(za, .inr (13, [.int 0, .ref z1, .int (nI z2), .int (nI z3), .int z4, .int z5, .ref z6, .ref z7, .ref z8, .ref z9, .int (nI z10), .ref z11, .ref z12, .ref z13, .ref z14, .ref z15, .int (nI w16_36), .ref z17, .int z18, .ref z19]))]) (cx := [(za, .inr (13, [.int 0, .ref z1, .int (nI z2), .int (nI z3), .int z4, .int z5, .ref z6, .ref z7, .ref z8, .ref z9, .int (nI z10), .ref z11, .ref z12, .ref z13, .ref z14, .ref z15, .int (nI w16_36), .ref z17, .int z18, .ref z19]))]) (wr := []) (w1 := [(za, .inr (13, [.int 0, .ref z1, .int (nI z2), .int (nI z3), .int 0, .int (-1), .ref z6, .ref z7, .ref z8, .ref z9, .int (nI z10), .ref z11, .ref z12, .ref z13, .ref z14, .ref z15, .int (nI w16_36), .ref z17, .int z18, .ref z19]))]) (pl := va_pl L M_55) hP hD [0] [] rfl rfl (by decide) (by decide) hk1 hFc hP1 hD1
              have hP : va_P D vwCl ([(za, .inr (13, [.int 0, .ref z1, .int (nI z2), .int (nI z3), .int 0, .int (-1), .ref z6, .ref z7, .ref z8, .ref z9, .int (nI z10), .ref z11, .ref z12, .ref z13, .ref z14, .ref z15, .int (nI w16_36), .ref z17, .int z18, .ref z19]))] ++ va_pl L M_55) H_94 := hP
              have hD : va_D A ([(za, .inr (13, [.int 0, .ref z1, .int (nI z2), .int (nI z3), .int 0, .int (-1), .ref z6, .ref z7, .ref z8, .ref z9, .int (nI z10), .ref z11, .ref z12, .ref z13, .ref z14, .ref z15, .int (nI w16_36), .ref z17, .int z18, .ref z19]))] ++ va_pl L M_55) := hD
              have hq := Eq.symm hp_97
              subst hq
              rw [hQ]
              exact W.iret (v := 0) hx hb hr (fun t ht hW9 => ⟨⟨0, M_55, rfl, ⟨hW, hF, trivial⟩, ⟨0, (-1), w16_36, (by omega), by rw [ht]; exact hP, hD⟩⟩, hS.F ht⟩) hS.2.2 dX13_hidden_115
          · have hz := rfl (a := 0)
            refine lv_aload_n hx hb dX13_hidden_68 rfl (lv_at hl 1 rfl) ?_
            refine lv_iconst (v := 3) hx hb dX13_hidden_69 (by decide) ?_
            have hPc := hP.sub (ws' := [(za, .inr (13, [.int 0, .ref z1, .int (nI z2), .int (nI z3), .int z4, .int z5, .ref z6, .ref z7, .ref z8, .ref z9, .int (nI z10), .ref z11, .ref z12, .ref z13, .ref z14, .ref z15, .int (nI z16), .ref z17, .int z18, .ref z19]))]) [0] rfl
            have hDc := hD.sub (ws' := [(za, .inr (13, [.int 0, .ref z1, .int (nI z2), .int (nI z3), .int z4, .int z5, .ref z6, .ref z7, .ref z8, .ref z9, .int (nI z10), .ref z11, .ref z12, .ref z13, .ref z14, .ref z15, .int (nI z16), .ref z17, .int z18, .ref z19]))]) [0] (by decide) rfl
            have hKc := hK.sub (tys' := []) [] rfl
            have hFc := va_free (wc := [(za, .inr (13, [.int 0, .ref z1, .int (nI z2), .int (nI z3), .int z4, .int z5, .ref z6, .ref z7, .ref z8, .ref z9, .int (nI z10), .ref z11, .ref z12, .ref z13, .ref z14, .ref z15, .int (nI z16), .ref z17, .int z18, .ref z19]))]) hD hS hA [0] rfl
            refine va_calli (va_runV (As := [.int 3]) (rest := []) ⟨hx, hb, hml, hown, hg⟩ (m_refused l D H_18.size za 0 z1 (nI z2) (nI z3) z4 z5 z6 z7 z8 z9 (nI z10) z11 z12 z13 z14 z15 (nI z16) z17 z18 z19 3) (cwV 1 hg (gV wd_725 wd_726 wd_727 wd_717 wd_728) rfl rfl rfl (by decide +kernel) ⟨(Nat.le_trans (Nat.le_of_ble_eq_true rfl) hRf), (Nat.le_trans (Nat.le_of_ble_eq_true rfl) hRl)⟩) ⟨Pr.blind, va_recv hK hP (ci := 13) (q0 := 0) rfl rfl, fun U hU hW => ⟨rfl, Pr.at hPc hKc hDc hN hU hW⟩⟩ rfl rfl hl.1 rfl (lv_room (Nat.le_of_ble_eq_true rfl)) dX13_hidden_70 ⟨(Nat.le_trans (Nat.le_of_ble_eq_true rfl) hRc), (Nat.le_trans (Nat.le_of_ble_eq_true rfl) hRs)⟩) hS (fun q _ h => hFc q h) hFc (fun r_99 M_100 t H_98 locs ht hvm hw hB hz1 hk1 hS => ?_)
            have hp_101 := hw
            obtain ⟨hP1, hK1, hD1⟩ := hB
            rw [ht] at hP1
            obtain ⟨hP, hD⟩ := va_joinQ (X := [(za, .inr (13, [.int 0, .ref z1, .int (nI z2), .int (nI z3), .int z4, .int z5, .ref z6, .ref z7, .ref z8, .ref z9, .int (nI z10), .ref z11, .ref z12, .ref z13, .ref z14, .ref z15, .int (nI z16), .ref z17, .int z18, .ref z19]))]) (cx := [(za, .inr (13, [.int 0, .ref z1, .int (nI z2), .int (nI z3), .int z4, .int z5, .ref z6, .ref z7, .ref z8, .ref z9, .int (nI z10), .ref z11, .ref z12, .ref z13, .ref z14, .ref z15, .int (nI z16), .ref z17, .int z18, .ref z19]))]) (wr := []) (w1 := [(za, .inr (13, [.int 0, .ref z1, .int (nI z2), .int (nI z3), .int 3, .int (-1), .ref z6, .ref z7, .ref z8, .ref z9, .int (nI z10), .ref z11, .ref z12, .ref z13, .ref z14, .ref z15, .int (nI z16), .ref z17, .int z18, .ref z19]))]) (pl := va_pl L M) hP hD [0] [] rfl rfl (by decide) (by decide) hk1 hFc hP1 hD1
            have hP : va_P D vwCl ([(za, .inr (13, [.int 0, .ref z1, .int (nI z2), .int (nI z3), .int 3, .int (-1), .ref z6, .ref z7, .ref z8, .ref z9, .int (nI z10), .ref z11, .ref z12, .ref z13, .ref z14, .ref z15, .int (nI z16), .ref z17, .int z18, .ref z19]))] ++ va_pl L M) H_98 := hP
            have hD : va_D A ([(za, .inr (13, [.int 0, .ref z1, .int (nI z2), .int (nI z3), .int 3, .int (-1), .ref z6, .ref z7, .ref z8, .ref z9, .int (nI z10), .ref z11, .ref z12, .ref z13, .ref z14, .ref z15, .int (nI z16), .ref z17, .int z18, .ref z19]))] ++ va_pl L M) := hD
            have hq := Eq.symm hp_101
            subst hq
            rw [hQ]
            exact W.iret (v := (-1)) hx hb hr (fun t ht hW9 => ⟨⟨(-1), M, rfl, ⟨hW, hF, trivial⟩, ⟨3, (-1), z16, (by omega), by rw [ht]; exact hP, hD⟩⟩, hS.F ht⟩) hS.2.2 dX13_hidden_73
      · have hz := rfl (a := 0)
        refine lv_if_ne (tgt := 44) hx hb dX13_hidden_35 (by decide) (fun c_102 => absurd c_102 (by decide)) (fun _ => ?_)
        refine lv_aload_n hx hb dX13_hidden_38 rfl (lv_at hl 0 rfl) ?_
        refine lv_iconst (v := 2) hx hb dX13_hidden_39 (by decide) ?_
        have hPc := hP.sub (ws' := [(za, .inr (13, [.int 0, .ref z1, .int (nI z2), .int (nI z3), .int z4, .int z5, .ref z6, .ref z7, .ref z8, .ref z9, .int (nI z10), .ref z11, .ref z12, .ref z13, .ref z14, .ref z15, .int (nI z16), .ref z17, .int z18, .ref z19]))]) [0] rfl
        have hDc := hD.sub (ws' := [(za, .inr (13, [.int 0, .ref z1, .int (nI z2), .int (nI z3), .int z4, .int z5, .ref z6, .ref z7, .ref z8, .ref z9, .int (nI z10), .ref z11, .ref z12, .ref z13, .ref z14, .ref z15, .int (nI z16), .ref z17, .int z18, .ref z19]))]) [0] (by decide) rfl
        have hKc := hK.sub (tys' := []) [] rfl
        have hFc := va_free (wc := [(za, .inr (13, [.int 0, .ref z1, .int (nI z2), .int (nI z3), .int z4, .int z5, .ref z6, .ref z7, .ref z8, .ref z9, .int (nI z10), .ref z11, .ref z12, .ref z13, .ref z14, .ref z15, .int (nI z16), .ref z17, .int z18, .ref z19]))]) hD hS hA [0] rfl
        refine va_calli (va_runV (As := [.int 2]) (rest := []) ⟨hx, hb, hml, hown, hg⟩ (m_refused l D H_18.size za 0 z1 (nI z2) (nI z3) z4 z5 z6 z7 z8 z9 (nI z10) z11 z12 z13 z14 z15 (nI z16) z17 z18 z19 2) (cwV 1 hg (gV wd_725 wd_726 wd_727 wd_717 wd_728) rfl rfl rfl (by decide +kernel) ⟨(Nat.le_trans (Nat.le_of_ble_eq_true rfl) hRf), (Nat.le_trans (Nat.le_of_ble_eq_true rfl) hRl)⟩) ⟨Pr.blind, va_recv hK hP (ci := 13) (q0 := 0) rfl rfl, fun U hU hW => ⟨rfl, Pr.at hPc hKc hDc hN hU hW⟩⟩ rfl rfl hl.1 rfl (lv_room (Nat.le_of_ble_eq_true rfl)) dX13_hidden_40 ⟨(Nat.le_trans (Nat.le_of_ble_eq_true rfl) hRc), (Nat.le_trans (Nat.le_of_ble_eq_true rfl) hRs)⟩) hS (fun q _ h => hFc q h) hFc (fun r_104 M_105 t H_103 locs ht hvm hw hB hz1 hk1 hS => ?_)
        have hp_106 := hw
        obtain ⟨hP1, hK1, hD1⟩ := hB
        rw [ht] at hP1
        obtain ⟨hP, hD⟩ := va_joinQ (X := [(za, .inr (13, [.int 0, .ref z1, .int (nI z2), .int (nI z3), .int z4, .int z5, .ref z6, .ref z7, .ref z8, .ref z9, .int (nI z10), .ref z11, .ref z12, .ref z13, .ref z14, .ref z15, .int (nI z16), .ref z17, .int z18, .ref z19]))]) (cx := [(za, .inr (13, [.int 0, .ref z1, .int (nI z2), .int (nI z3), .int z4, .int z5, .ref z6, .ref z7, .ref z8, .ref z9, .int (nI z10), .ref z11, .ref z12, .ref z13, .ref z14, .ref z15, .int (nI z16), .ref z17, .int z18, .ref z19]))]) (wr := []) (w1 := [(za, .inr (13, [.int 0, .ref z1, .int (nI z2), .int (nI z3), .int 2, .int (-1), .ref z6, .ref z7, .ref z8, .ref z9, .int (nI z10), .ref z11, .ref z12, .ref z13, .ref z14, .ref z15, .int (nI z16), .ref z17, .int z18, .ref z19]))]) (pl := va_pl L M) hP hD [0] [] rfl rfl (by decide) (by decide) hk1 hFc hP1 hD1
        have hP : va_P D vwCl ([(za, .inr (13, [.int 0, .ref z1, .int (nI z2), .int (nI z3), .int 2, .int (-1), .ref z6, .ref z7, .ref z8, .ref z9, .int (nI z10), .ref z11, .ref z12, .ref z13, .ref z14, .ref z15, .int (nI z16), .ref z17, .int z18, .ref z19]))] ++ va_pl L M) H_103 := hP
        have hD : va_D A ([(za, .inr (13, [.int 0, .ref z1, .int (nI z2), .int (nI z3), .int 2, .int (-1), .ref z6, .ref z7, .ref z8, .ref z9, .int (nI z10), .ref z11, .ref z12, .ref z13, .ref z14, .ref z15, .int (nI z16), .ref z17, .int z18, .ref z19]))] ++ va_pl L M) := hD
        have hq := Eq.symm hp_106
        subst hq
        rw [hQ]
        exact W.iret (v := (-1)) hx hb hr (fun t ht hW9 => ⟨⟨(-1), M, rfl, ⟨hW, hF, trivial⟩, ⟨2, (-1), z16, (by omega), by rw [ht]; exact hP, hD⟩⟩, hS.F ht⟩) hS.2.2 dX13_hidden_43
    · have hz := rfl (a := 0)
      have n_107 : v15 = 0 := (iEQ (a := v15) (b := 0) (by omega) (by omega)).mp c_16
      refine lv_aload_n hx hb dX13_hidden_25 rfl (lv_at hl 0 rfl) ?_
      refine lv_iconst (v := 1) hx hb dX13_hidden_26 (by decide) ?_
      have hPc := hP.sub (ws' := [(za, .inr (13, [.int 0, .ref z1, .int (nI z2), .int (nI z3), .int z4, .int z5, .ref z6, .ref z7, .ref z8, .ref z9, .int (nI z10), .ref z11, .ref z12, .ref z13, .ref z14, .ref z15, .int (nI z16), .ref z17, .int z18, .ref z19]))]) [0] rfl
      have hDc := hD.sub (ws' := [(za, .inr (13, [.int 0, .ref z1, .int (nI z2), .int (nI z3), .int z4, .int z5, .ref z6, .ref z7, .ref z8, .ref z9, .int (nI z10), .ref z11, .ref z12, .ref z13, .ref z14, .ref z15, .int (nI z16), .ref z17, .int z18, .ref z19]))]) [0] (by decide) rfl
      have hKc := hK.sub (tys' := []) [] rfl
      have hFc := va_free (wc := [(za, .inr (13, [.int 0, .ref z1, .int (nI z2), .int (nI z3), .int z4, .int z5, .ref z6, .ref z7, .ref z8, .ref z9, .int (nI z10), .ref z11, .ref z12, .ref z13, .ref z14, .ref z15, .int (nI z16), .ref z17, .int z18, .ref z19]))]) hD hS hA [0] rfl
      refine va_calli (va_runV (As := [.int 1]) (rest := []) ⟨hx, hb, hml, hown, hg⟩ (m_refused l D H_2.size za 0 z1 (nI z2) (nI z3) z4 z5 z6 z7 z8 z9 (nI z10) z11 z12 z13 z14 z15 (nI z16) z17 z18 z19 1) (cwV 1 hg (gV wd_725 wd_726 wd_727 wd_717 wd_728) rfl rfl rfl (by decide +kernel) ⟨(Nat.le_trans (Nat.le_of_ble_eq_true rfl) hRf), (Nat.le_trans (Nat.le_of_ble_eq_true rfl) hRl)⟩) ⟨Pr.blind, va_recv hK hP (ci := 13) (q0 := 0) rfl rfl, fun U hU hW => ⟨rfl, Pr.at hPc hKc hDc hN hU hW⟩⟩ rfl rfl hl.1 rfl (lv_room (Nat.le_of_ble_eq_true rfl)) dX13_hidden_27 ⟨(Nat.le_trans (Nat.le_of_ble_eq_true rfl) hRc), (Nat.le_trans (Nat.le_of_ble_eq_true rfl) hRs)⟩) hS (fun q _ h => hFc q h) hFc (fun r_109 M_110 t H_108 locs ht hvm hw hB hz1 hk1 hS => ?_)
      have hp_111 := hw
      obtain ⟨hP1, hK1, hD1⟩ := hB
      rw [ht] at hP1
      obtain ⟨hP, hD⟩ := va_joinQ (X := [(za, .inr (13, [.int 0, .ref z1, .int (nI z2), .int (nI z3), .int z4, .int z5, .ref z6, .ref z7, .ref z8, .ref z9, .int (nI z10), .ref z11, .ref z12, .ref z13, .ref z14, .ref z15, .int (nI z16), .ref z17, .int z18, .ref z19]))]) (cx := [(za, .inr (13, [.int 0, .ref z1, .int (nI z2), .int (nI z3), .int z4, .int z5, .ref z6, .ref z7, .ref z8, .ref z9, .int (nI z10), .ref z11, .ref z12, .ref z13, .ref z14, .ref z15, .int (nI z16), .ref z17, .int z18, .ref z19]))]) (wr := []) (w1 := [(za, .inr (13, [.int 0, .ref z1, .int (nI z2), .int (nI z3), .int 1, .int (-1), .ref z6, .ref z7, .ref z8, .ref z9, .int (nI z10), .ref z11, .ref z12, .ref z13, .ref z14, .ref z15, .int (nI z16), .ref z17, .int z18, .ref z19]))]) (pl := va_pl L M) hP hD [0] [] rfl rfl (by decide) (by decide) hk1 hFc hP1 hD1
      have hP : va_P D vwCl ([(za, .inr (13, [.int 0, .ref z1, .int (nI z2), .int (nI z3), .int 1, .int (-1), .ref z6, .ref z7, .ref z8, .ref z9, .int (nI z10), .ref z11, .ref z12, .ref z13, .ref z14, .ref z15, .int (nI z16), .ref z17, .int z18, .ref z19]))] ++ va_pl L M) H_108 := hP
      have hD : va_D A ([(za, .inr (13, [.int 0, .ref z1, .int (nI z2), .int (nI z3), .int 1, .int (-1), .ref z6, .ref z7, .ref z8, .ref z9, .int (nI z10), .ref z11, .ref z12, .ref z13, .ref z14, .ref z15, .int (nI z16), .ref z17, .int z18, .ref z19]))] ++ va_pl L M) := hD
      have hq := Eq.symm hp_111
      subst hq
      rw [hQ]
      exact W.iret (v := (-1)) hx hb hr (fun t ht hW9 => ⟨⟨(-1), M, rfl, ⟨hW, hF, trivial⟩, ⟨1, (-1), z16, (by omega), by rw [ht]; exact hP, hD⟩⟩, hS.F ht⟩) hS.2.2 dX13_hidden_30
  · have hz := rfl (a := 0)
    refine lv_if_eq (tgt := 25) hx hb dX13_hidden_10 (by decide) (fun _ => ?_) (fun c_112 => absurd c_112 (by decide))
    refine lv_aload_n hx hb dX13_hidden_25 rfl (lv_at hl 0 rfl) ?_
    refine lv_iconst (v := 1) hx hb dX13_hidden_26 (by decide) ?_
    have hPc := hP.sub (ws' := [(za, .inr (13, [.int 0, .ref z1, .int (nI z2), .int (nI z3), .int z4, .int z5, .ref z6, .ref z7, .ref z8, .ref z9, .int (nI z10), .ref z11, .ref z12, .ref z13, .ref z14, .ref z15, .int (nI z16), .ref z17, .int z18, .ref z19]))]) [0] rfl
    have hDc := hD.sub (ws' := [(za, .inr (13, [.int 0, .ref z1, .int (nI z2), .int (nI z3), .int z4, .int z5, .ref z6, .ref z7, .ref z8, .ref z9, .int (nI z10), .ref z11, .ref z12, .ref z13, .ref z14, .ref z15, .int (nI z16), .ref z17, .int z18, .ref z19]))]) [0] (by decide) rfl
    have hKc := hK.sub (tys' := []) [] rfl
    have hFc := va_free (wc := [(za, .inr (13, [.int 0, .ref z1, .int (nI z2), .int (nI z3), .int z4, .int z5, .ref z6, .ref z7, .ref z8, .ref z9, .int (nI z10), .ref z11, .ref z12, .ref z13, .ref z14, .ref z15, .int (nI z16), .ref z17, .int z18, .ref z19]))]) hD hS hA [0] rfl
    refine va_calli (va_runV (As := [.int 1]) (rest := []) ⟨hx, hb, hml, hown, hg⟩ (m_refused l D H_2.size za 0 z1 (nI z2) (nI z3) z4 z5 z6 z7 z8 z9 (nI z10) z11 z12 z13 z14 z15 (nI z16) z17 z18 z19 1) (cwV 1 hg (gV wd_725 wd_726 wd_727 wd_717 wd_728) rfl rfl rfl (by decide +kernel) ⟨(Nat.le_trans (Nat.le_of_ble_eq_true rfl) hRf), (Nat.le_trans (Nat.le_of_ble_eq_true rfl) hRl)⟩) ⟨Pr.blind, va_recv hK hP (ci := 13) (q0 := 0) rfl rfl, fun U hU hW => ⟨rfl, Pr.at hPc hKc hDc hN hU hW⟩⟩ rfl rfl hl.1 rfl (lv_room (Nat.le_of_ble_eq_true rfl)) dX13_hidden_27 ⟨(Nat.le_trans (Nat.le_of_ble_eq_true rfl) hRc), (Nat.le_trans (Nat.le_of_ble_eq_true rfl) hRs)⟩) hS (fun q _ h => hFc q h) hFc (fun r_114 M_115 t H_113 locs ht hvm hw hB hz1 hk1 hS => ?_)
    have hp_116 := hw
    obtain ⟨hP1, hK1, hD1⟩ := hB
    rw [ht] at hP1
    obtain ⟨hP, hD⟩ := va_joinQ (X := [(za, .inr (13, [.int 0, .ref z1, .int (nI z2), .int (nI z3), .int z4, .int z5, .ref z6, .ref z7, .ref z8, .ref z9, .int (nI z10), .ref z11, .ref z12, .ref z13, .ref z14, .ref z15, .int (nI z16), .ref z17, .int z18, .ref z19]))]) (cx := [(za, .inr (13, [.int 0, .ref z1, .int (nI z2), .int (nI z3), .int z4, .int z5, .ref z6, .ref z7, .ref z8, .ref z9, .int (nI z10), .ref z11, .ref z12, .ref z13, .ref z14, .ref z15, .int (nI z16), .ref z17, .int z18, .ref z19]))]) (wr := []) (w1 := [(za, .inr (13, [.int 0, .ref z1, .int (nI z2), .int (nI z3), .int 1, .int (-1), .ref z6, .ref z7, .ref z8, .ref z9, .int (nI z10), .ref z11, .ref z12, .ref z13, .ref z14, .ref z15, .int (nI z16), .ref z17, .int z18, .ref z19]))]) (pl := va_pl L M) hP hD [0] [] rfl rfl (by decide) (by decide) hk1 hFc hP1 hD1
    have hP : va_P D vwCl ([(za, .inr (13, [.int 0, .ref z1, .int (nI z2), .int (nI z3), .int 1, .int (-1), .ref z6, .ref z7, .ref z8, .ref z9, .int (nI z10), .ref z11, .ref z12, .ref z13, .ref z14, .ref z15, .int (nI z16), .ref z17, .int z18, .ref z19]))] ++ va_pl L M) H_113 := hP
    have hD : va_D A ([(za, .inr (13, [.int 0, .ref z1, .int (nI z2), .int (nI z3), .int 1, .int (-1), .ref z6, .ref z7, .ref z8, .ref z9, .int (nI z10), .ref z11, .ref z12, .ref z13, .ref z14, .ref z15, .int (nI z16), .ref z17, .int z18, .ref z19]))] ++ va_pl L M) := hD
    have hq := Eq.symm hp_116
    subst hq
    rw [hQ]
    exact W.iret (v := (-1)) hx hb hr (fun t ht hW9 => ⟨⟨(-1), M, rfl, ⟨hW, hF, trivial⟩, ⟨1, (-1), z16, (by omega), by rw [ht]; exact hP, hD⟩⟩, hS.F ht⟩) hS.2.2 dX13_hidden_30
set_option maxHeartbeats 4000000 in
set_option maxRecDepth 100000 in
theorem r_X13_bear (l : Launch) (D : va_G) (cy : Nat → ClassId) (K : Kp) (L : List Nat) (M : Hp) (sz : Nat) (za : Nat) (z0 : Int32) (z1 : Nat) (z2 : Nat) (z3 : Nat) (z4 : Int32) (z5 : Int32) (z6 : Nat) (z7 : Nat) (z8 : Nat) (z9 : Nat) (z10 : Nat) (z11 : Nat) (z12 : Nat) (z13 : Nat) (z14 : Nat) (z15 : Nat) (z16 : Nat) (z17 : Nat) (z18 : Int32) (z19 : Nat) (k1 : Int32) (k2 : Int32) (k3 : Int32) (hW : WOM cy K L M) (i1 : isk K L z1 23 8) (b2 : z2 ≤ 8) (b3 : z3 ≤ 40) (i6 : isk K L z6 47 40) (i7 : isk K L z7 48 40) (i8 : isk K L z8 49 8) (i9 : isk K L z9 50 8) (b10 : z10 ≤ 8) (i11 : isk K L z11 32 24) (i12 : isk K L z12 14 24) (i13 : isk K L z13 15 24) (i14 : isk K L z14 15 24) (i15 : isk K L z15 15 24) (b16 : z16 ≤ 24) (i17 : isk K L z17 14 24) (i19 : isk K L z19 15 25) (hRL : RLI cy K L M) : Met l yX13_bear (wsM yX13_bear cX13_bear 9 (some .int)) ({ frames := 4, cells := 0, slots := 0, locals := 107 }) (va_Pc [.ref za, .int k1, .int k2, .int k3] (PG D cy [(za, .inr (13, [.int z0, .ref z1, .int (nI z2), .int (nI z3), .int z4, .int z5, .ref z6, .ref z7, .ref z8, .ref z9, .int (nI z10), .ref z11, .ref z12, .ref z13, .ref z14, .ref z15, .int (nI z16), .ref z17, .int z18, .ref z19]))] L M sz)) (va_Qi (fun (r : Int32) (M9 : Hp) => WOM cy K L M9 ∧ fr K L [14, 15, 32] M M9 ∧ (True)) (fun M9 t => ∃ (w4 : Int32) (w5 : Int32) (w16 : Nat) (w18 : Int32), w16 ≤ 24 ∧ PQ D [(za, .inr (13, [.int 0, .ref z1, .int (nI z2), .int (nI z3), .int w4, .int w5, .ref z6, .ref z7, .ref z8, .ref z9, .int (nI z10), .ref z11, .ref z12, .ref z13, .ref z14, .ref z15, .int (nI w16), .ref z17, .int w18, .ref z19]))] L M9 (va_A ([(za, .inr (13, [.int z0, .ref z1, .int (nI z2), .int (nI z3), .int z4, .int z5, .ref z6, .ref z7, .ref z8, .ref z9, .int (nI z10), .ref z11, .ref z12, .ref z13, .ref z14, .ref z15, .int (nI z16), .ref z17, .int z18, .ref z19]))] ++ va_pl L M) sz) t) (va_A ([(za, .inr (13, [.int z0, .ref z1, .int (nI z2), .int (nI z3), .int z4, .int z5, .ref z6, .ref z7, .ref z8, .ref z9, .int (nI z10), .ref z11, .ref z12, .ref z13, .ref z14, .ref z15, .int (nI z16), .ref z17, .int z18, .ref z19]))] ++ va_pl L M) sz)) 0 0 (va_A ([(za, .inr (13, [.int z0, .ref z1, .int (nI z2), .int (nI z3), .int z4, .int z5, .ref z6, .ref z7, .ref z8, .ref z9, .int (nI z10), .ref z11, .ref z12, .ref z13, .ref z14, .ref z15, .int (nI z16), .ref z17, .int z18, .ref z19]))] ++ va_pl L M) sz) := by
  refine Met.ofW (cc := cX13_bear) (maxL := 9) (ret := (some .int)) (by decide) rfl ?_
  intro p e s m args below meth c s₁ B hml hv
  obtain ⟨rfl, hsz, hP, hK, hD0, hN⟩ := hv
  have hx := B.exec
  have hb := B.bytes
  have hr := B.returns
  have hts := atoms_spec (ws := (wsM yX13_bear cX13_bear 9 (some .int))) B.pre
  have hg : ∀ w ∈ lw_good, w.before _ s = true := fun w h => hts w (List.mem_cons_of_mem _ h)
  have hown : s.vm.findClass RX13 = some m.cls := findClass_of_methodNamed B.named
  have hlocks := B.notSynchronized
  subst hsz
  have hD := hD0.self (sz := s.heap.size)
  generalize hAe : va_A ([(za, .inr (13, [.int z0, .ref z1, .int (nI z2), .int (nI z3), .int z4, .int z5, .ref z6, .ref z7, .ref z8, .ref z9, .int (nI z10), .ref z11, .ref z12, .ref z13, .ref z14, .ref z15, .int (nI z16), .ref z17, .int z18, .ref z19]))] ++ va_pl L M) s.heap.size = A at hD ⊢
  have hA : ∀ q : Nat, s.heap.size ≤ q → A q := fun q h => by rw [← hAe]; exact Or.inr h
  have hS : va_S A s.heap s.heap [] := va_S.rf
  have hl := lv_entry ([.ref za, .int k1, .int k2, .int k3]) (n := 9) (Nat.le_of_ble_eq_true rfl)
  rw [lg_entry_eq]
  generalize (lg_sl ([.ref za, .int k1, .int k2, .int k3]) ++ List.replicate (9 - (lg_sl ([.ref za, .int k1, .int k2, .int k3])).length) Slot.unset).toArray = ls at hl ⊢
  refine W.nameQ (fun Q hQ => ?_)
  refine W.nameR (fun R hR => ?_)
  have hRf : 4 ≤ R.frames := by rw [hR]; exact Nat.le_of_ble_eq_true rfl
  have hRl : 107 ≤ R.locals := by rw [hR]; exact Nat.le_of_ble_eq_true rfl
  have hRc : 0 ≤ R.cells := by rw [hR]; exact Nat.le_of_ble_eq_true rfl
  have hRs : 0 ≤ R.slots := by rw [hR]; exact Nat.le_of_ble_eq_true rfl
  have hF : fr K L [14, 15, 32] M M := fr.rf
  have hl : lv_has ls 9 [(0, .ref za), (1, .int k1), (2, .int k2), (3, .int k3)] := hl
  have hW0 := hW
  refine lv_aload_n hx hb dX13_bear_0 rfl (lv_at hl 0 rfl) ?_
  refine lv_iconst (v := 0) hx hb dX13_bear_1 (by decide) ?_
  refine va_put (D := D) (ci := 13) (v := .int 0) (ty := .int) (C := RX13) (T := TX13) (N := 20) hx hb hg inG13 tyX13 tyX13_ok nmX13 hown hK hP hD hS 0 rfl rfl 0 (by decide) (hg _ wd_720) (fun _ h9 => h9) rfl (by decide +kernel) rfl rfl (Nat.le_of_ble_eq_true rfl) dX13_bear_2 (fun H_1 locs hP hD hS => ?_)
  have hP : va_P D vwCl ([(za, .inr (13, [.int 0, .ref z1, .int (nI z2), .int (nI z3), .int z4, .int z5, .ref z6, .ref z7, .ref z8, .ref z9, .int (nI z10), .ref z11, .ref z12, .ref z13, .ref z14, .ref z15, .int (nI z16), .ref z17, .int z18, .ref z19]))] ++ va_pl L M) H_1 := hP
  have hD : va_D A ([(za, .inr (13, [.int 0, .ref z1, .int (nI z2), .int (nI z3), .int z4, .int z5, .ref z6, .ref z7, .ref z8, .ref z9, .int (nI z10), .ref z11, .ref z12, .ref z13, .ref z14, .ref z15, .int (nI z16), .ref z17, .int z18, .ref z19]))] ++ va_pl L M) := hD
  refine lv_aload_n hx hb dX13_bear_5 rfl (lv_at hl 0 rfl) ?_
  refine lv_iload_n hx hb dX13_bear_6 rfl (lv_at hl 1 rfl) ?_
  have hPc : va_P D vwCl ([(za, .inr (13, [.int 0, .ref z1, .int (nI z2), .int (nI z3), .int z4, .int z5, .ref z6, .ref z7, .ref z8, .ref z9, .int (nI z10), .ref z11, .ref z12, .ref z13, .ref z14, .ref z15, .int (nI z16), .ref z17, .int z18, .ref z19]))] ++ va_pl L M) H_1 := hP
  have hDc : va_D A ([(za, .inr (13, [.int 0, .ref z1, .int (nI z2), .int (nI z3), .int z4, .int z5, .ref z6, .ref z7, .ref z8, .ref z9, .int (nI z10), .ref z11, .ref z12, .ref z13, .ref z14, .ref z15, .int (nI z16), .ref z17, .int z18, .ref z19]))] ++ va_pl L M) := hD
  have hFc : ∀ q, va_A ([(za, .inr (13, [.int 0, .ref z1, .int (nI z2), .int (nI z3), .int z4, .int z5, .ref z6, .ref z7, .ref z8, .ref z9, .int (nI z10), .ref z11, .ref z12, .ref z13, .ref z14, .ref z15, .int (nI z16), .ref z17, .int z18, .ref z19]))] ++ va_pl L M) H_1.size q → A q := pg_free hDc hS hA
  refine va_calli (va_runV (As := [.int k1]) (rest := []) ⟨hx, hb, hml, hown, hg⟩ (r_X13_isHouse l D cy K L M H_1.size za 0 z1 z2 z3 z4 z5 z6 z7 z8 z9 z10 z11 z12 z13 z14 z15 z16 z17 z18 z19 k1  hW i1 b2 b3 i6 i7 i8 i9 b10 i11 i12 i13 i14 i15 b16 i17 i19) (cwV 1 hg (gV wd_714 wd_715 wd_716 wd_717 wd_718) rfl rfl rfl (by decide +kernel) ⟨(Nat.le_trans (Nat.le_of_ble_eq_true rfl) hRf), (Nat.le_trans (Nat.le_of_ble_eq_true rfl) hRl)⟩) ⟨PG.blind, va_recv hK hP (ci := 13) (q0 := 0) rfl rfl, fun U hU hW => ⟨rfl, PG.at hPc hK hDc hN hU hW⟩⟩ rfl rfl hl.1 rfl (lv_room (Nat.le_of_ble_eq_true rfl)) dX13_bear_7 ⟨(Nat.le_trans (Nat.le_of_ble_eq_true rfl) hRc), (Nat.le_trans (Nat.le_of_ble_eq_true rfl) hRs)⟩) hS (fun q _ h => hFc q h) hFc (fun r_3 M_4 t H_2 locs ht hvm hw hB hz1 hk1 hS => ?_)
  have hp_5 := hw
  obtain ⟨hP1, hD1⟩ := hB
  rw [ht] at hP1
  have hP : va_P D vwCl ([(za, .inr (13, [.int 0, .ref z1, .int (nI z2), .int (nI z3), .int z4, .int z5, .ref z6, .ref z7, .ref z8, .ref z9, .int (nI z10), .ref z11, .ref z12, .ref z13, .ref z14, .ref z15, .int (nI z16), .ref z17, .int z18, .ref z19]))] ++ va_pl L M) H_2 := hP1
  have hD : va_D A ([(za, .inr (13, [.int 0, .ref z1, .int (nI z2), .int (nI z3), .int z4, .int z5, .ref z6, .ref z7, .ref z8, .ref z9, .int (nI z10), .ref z11, .ref z12, .ref z13, .ref z14, .ref z15, .int (nI z16), .ref z17, .int z18, .ref z19]))] ++ va_pl L M) := hD1.mono hFc
  rcases hp_5 with ⟨rfl, c_6, c_7⟩ | rfl
  · have hz := rfl (a := 0)
    refine lv_if_eq (tgt := 25) hx hb dX13_bear_10 (by decide) (fun c_8 => absurd c_8 (by decide)) (fun _ => ?_)
    refine lv_aload_n hx hb dX13_bear_13 rfl (lv_at hl 0 rfl) ?_
    refine va_get (D := D) (ci := 13) (v := .ref z1) (C := RX13) (T := TX13) (N := 20) hx hb hg inG13 hown hK hP 0 rfl rfl 1 (by decide) (hg _ wd_739) (fun _ h9 => h9) rfl dX13_bear_14 ?_
    refine lv_iload_n hx hb dX13_bear_17 rfl (lv_at hl 1 rfl) ?_
    obtain ⟨f9, hM9, hf9⟩ := hW.open_23 i1
    have hi_10 : vp_in k1 8 := (inbW (a := z2) (by omega) (inb k1 z2 (by omega) c_6 c_7))
    refine pg_aldq hx hb hK hP i1.1 9 hM9 rfl hi_10 dX13_bear_18 ?_
    obtain ⟨b11, eb_12, hb_13⟩ := hf9 _ (vp_lt hi_10)
    rw [eb_12]
    obtain ⟨fs14, hM14, hn14, hl14⟩ := hW.open_12 hb_13
    obtain ⟨v15, hv15, hc15⟩ : ∃ v : Nat, fs14[11]? = some (.int (nI v) : Value) ∧ v ≤ 16 := hl14 11 (by decide)
    refine pg_getN (D := D) (ci := 12) (v := .int (nI v15)) (C := RX12) (T := TX12) (N := 51) hx hb hg inG12 hown hK hP hb_13.1 hM14 rfl 11 (by decide) (hN.use (Cond.fieldLinkNest RX13 142 RX12 "rules" "I" RX13) 20 rfl rfl) (fun _ h9 => h9) hv15 dX13_bear_19 ?_
    refine lv_if_ne (tgt := 31) hx hb dX13_bear_22 (by decide) (fun c_16 => ?_) (fun c_16 => ?_)
    · have hz := rfl (a := 0)
      have n_17 : ¬ (v15 = 0) := fun q => c_16 ((iEQ (a := v15) (b := 0) (by omega) (by omega)).mpr q)
      refine lv_iload_n hx hb dX13_bear_31 rfl (lv_at hl 3 rfl) ?_
      have hPc : va_P D vwCl ([] ++ va_pl L M) H_2 := hP.part (cx := []) [] rfl
      have hDc : va_D A ([] ++ va_pl L M) := hD.part (cx := []) [] (by decide) rfl
      have hFc : ∀ q, va_A ([] ++ va_pl L M) H_2.size q → A q := pg_free hDc hS hA
      refine va_calli (va_runS (As := [.int k3]) (rest := []) ⟨hx, hb, hml, hown, hg⟩ (r_X13_isSum l D cy K L M H_2.size k3  hW ) (va_cwS 1 hg (gS wd_774 wd_775 wd_717 wd_776) rfl rfl rfl (by decide +kernel) ⟨(Nat.le_trans (Nat.le_of_ble_eq_true rfl) hRf), (Nat.le_trans (Nat.le_of_ble_eq_true rfl) hRl)⟩) ⟨PG.blind, fun U hU hW => ⟨rfl, PG.at hPc hK hDc hN hU hW⟩⟩ rfl rfl hl.1 rfl (lv_room (Nat.le_of_ble_eq_true rfl)) dX13_bear_32 ⟨(Nat.le_trans (Nat.le_of_ble_eq_true rfl) hRc), (Nat.le_trans (Nat.le_of_ble_eq_true rfl) hRs)⟩) hS (fun q _ h => hFc q h) hFc (fun r_19 M_20 t H_18 locs ht hvm hw hB hz1 hk1 hS => ?_)
      have hp_21 := hw
      obtain ⟨hP1, hD1⟩ := hB
      rw [ht] at hP1
      obtain ⟨hP, hD⟩ := va_joinP (X := [(za, .inr (13, [.int 0, .ref z1, .int (nI z2), .int (nI z3), .int z4, .int z5, .ref z6, .ref z7, .ref z8, .ref z9, .int (nI z10), .ref z11, .ref z12, .ref z13, .ref z14, .ref z15, .int (nI z16), .ref z17, .int z18, .ref z19]))]) (cx := []) (wr := [(za, .inr (13, [.int 0, .ref z1, .int (nI z2), .int (nI z3), .int z4, .int z5, .ref z6, .ref z7, .ref z8, .ref z9, .int (nI z10), .ref z11, .ref z12, .ref z13, .ref z14, .ref z15, .int (nI z16), .ref z17, .int z18, .ref z19]))]) (rx := []) (pl := va_pl L M) (pl1 := va_pl L M) hP hD [] [0] rfl rfl (by decide) (by decide) hk1 hFc hP1 hD1
      have hP : va_P D vwCl ([(za, .inr (13, [.int 0, .ref z1, .int (nI z2), .int (nI z3), .int z4, .int z5, .ref z6, .ref z7, .ref z8, .ref z9, .int (nI z10), .ref z11, .ref z12, .ref z13, .ref z14, .ref z15, .int (nI z16), .ref z17, .int z18, .ref z19]))] ++ va_pl L M) H_18 := hP
      have hD : va_D A ([(za, .inr (13, [.int 0, .ref z1, .int (nI z2), .int (nI z3), .int z4, .int z5, .ref z6, .ref z7, .ref z8, .ref z9, .int (nI z10), .ref z11, .ref z12, .ref z13, .ref z14, .ref z15, .int (nI z16), .ref z17, .int z18, .ref z19]))] ++ va_pl L M) := hD
      rcases hp_21 with rfl | rfl
      · have hz := rfl (a := 0)
        refine lv_if_ne (tgt := 44) hx hb dX13_bear_35 (by decide) (fun _ => ?_) (fun c_22 => absurd c_22 (by decide))
        refine lv_aload_n hx hb dX13_bear_44 rfl (lv_at hl 0 rfl) ?_
        refine va_get (D := D) (ci := 13) (v := .ref z1) (C := RX13) (T := TX13) (N := 20) hx hb hg inG13 hown hK hP 0 rfl rfl 1 (by decide) (hg _ wd_739) (fun _ h9 => h9) rfl dX13_bear_45 ?_
        refine lv_iload_n hx hb dX13_bear_48 rfl (lv_at hl 1 rfl) ?_
        have hi_23 : vp_in k1 8 := (inbW (a := z2) (by omega) (inb k1 z2 (by omega) c_6 c_7))
        refine pg_aldq hx hb hK hP i1.1 9 hM9 rfl hi_23 dX13_bear_49 ?_
        rw [show f9 (k1 : Int32).toNatClampNeg = some b11 from eb_12]
        refine lv_astore (lv' := [(4, .ref b11), (0, .ref za), (1, .int k1), (2, .int k2), (3, .int k3)]) hx hb dX13_bear_50 hl (by decide) rfl (fun ls hl => ?_)
        refine lv_iload_n hx hb dX13_bear_52 rfl (lv_at hl 3 rfl) ?_
        refine lv_aload hx hb dX13_bear_53 (lv_at hl 0 rfl) ?_
        obtain ⟨v24, hv24, hc24⟩ : ∃ v : Nat, fs14[0]? = some (.int (nI v) : Value) ∧ v ≤ 999 := hl14 0 (by decide)
        refine pg_getN (D := D) (ci := 12) (v := .int (nI v24)) (C := RX12) (T := TX12) (N := 51) hx hb hg inG12 hown hK hP hb_13.1 hM14 rfl 0 (by decide) (hN.use (Cond.fieldLinkNest RX13 77 RX12 "first" "I" RX13) 9 rfl rfl) (fun _ h9 => h9) hv24 dX13_bear_55 ?_
        refine lv_icmp_lt (tgt := 68) hx hb dX13_bear_58 (by decide) (fun c_25 => ?_) (fun c_25 => ?_)
        · have hz := rfl (a := 0)
          have n_26 : ¬ 999 ≤ k2 := ltB (b := 999) (by decide) hc24 c_25
          refine lv_aload_n hx hb dX13_bear_68 rfl (lv_at hl 1 rfl) ?_
          refine lv_iconst (v := 3) hx hb dX13_bear_69 (by decide) ?_
          have hPc := hP.sub (ws' := [(za, .inr (13, [.int 0, .ref z1, .int (nI z2), .int (nI z3), .int z4, .int z5, .ref z6, .ref z7, .ref z8, .ref z9, .int (nI z10), .ref z11, .ref z12, .ref z13, .ref z14, .ref z15, .int (nI z16), .ref z17, .int z18, .ref z19]))]) [0] rfl
          have hDc := hD.sub (ws' := [(za, .inr (13, [.int 0, .ref z1, .int (nI z2), .int (nI z3), .int z4, .int z5, .ref z6, .ref z7, .ref z8, .ref z9, .int (nI z10), .ref z11, .ref z12, .ref z13, .ref z14, .ref z15, .int (nI z16), .ref z17, .int z18, .ref z19]))]) [0] (by decide) rfl
          have hKc := hK.sub (tys' := []) [] rfl
          have hFc := va_free (wc := [(za, .inr (13, [.int 0, .ref z1, .int (nI z2), .int (nI z3), .int z4, .int z5, .ref z6, .ref z7, .ref z8, .ref z9, .int (nI z10), .ref z11, .ref z12, .ref z13, .ref z14, .ref z15, .int (nI z16), .ref z17, .int z18, .ref z19]))]) hD hS hA [0] rfl
          refine va_calli (va_runV (As := [.int 3]) (rest := []) ⟨hx, hb, hml, hown, hg⟩ (m_refused l D H_18.size za 0 z1 (nI z2) (nI z3) z4 z5 z6 z7 z8 z9 (nI z10) z11 z12 z13 z14 z15 (nI z16) z17 z18 z19 3) (cwV 1 hg (gV wd_725 wd_726 wd_727 wd_717 wd_728) rfl rfl rfl (by decide +kernel) ⟨(Nat.le_trans (Nat.le_of_ble_eq_true rfl) hRf), (Nat.le_trans (Nat.le_of_ble_eq_true rfl) hRl)⟩) ⟨Pr.blind, va_recv hK hP (ci := 13) (q0 := 0) rfl rfl, fun U hU hW => ⟨rfl, Pr.at hPc hKc hDc hN hU hW⟩⟩ rfl rfl hl.1 rfl (lv_room (Nat.le_of_ble_eq_true rfl)) dX13_bear_70 ⟨(Nat.le_trans (Nat.le_of_ble_eq_true rfl) hRc), (Nat.le_trans (Nat.le_of_ble_eq_true rfl) hRs)⟩) hS (fun q _ h => hFc q h) hFc (fun r_28 M_29 t H_27 locs ht hvm hw hB hz1 hk1 hS => ?_)
          have hp_30 := hw
          obtain ⟨hP1, hK1, hD1⟩ := hB
          rw [ht] at hP1
          obtain ⟨hP, hD⟩ := va_joinQ (X := [(za, .inr (13, [.int 0, .ref z1, .int (nI z2), .int (nI z3), .int z4, .int z5, .ref z6, .ref z7, .ref z8, .ref z9, .int (nI z10), .ref z11, .ref z12, .ref z13, .ref z14, .ref z15, .int (nI z16), .ref z17, .int z18, .ref z19]))]) (cx := [(za, .inr (13, [.int 0, .ref z1, .int (nI z2), .int (nI z3), .int z4, .int z5, .ref z6, .ref z7, .ref z8, .ref z9, .int (nI z10), .ref z11, .ref z12, .ref z13, .ref z14, .ref z15, .int (nI z16), .ref z17, .int z18, .ref z19]))]) (wr := []) (w1 := [(za, .inr (13, [.int 0, .ref z1, .int (nI z2), .int (nI z3), .int 3, .int (-1), .ref z6, .ref z7, .ref z8, .ref z9, .int (nI z10), .ref z11, .ref z12, .ref z13, .ref z14, .ref z15, .int (nI z16), .ref z17, .int z18, .ref z19]))]) (pl := va_pl L M) hP hD [0] [] rfl rfl (by decide) (by decide) hk1 hFc hP1 hD1
          have hP : va_P D vwCl ([(za, .inr (13, [.int 0, .ref z1, .int (nI z2), .int (nI z3), .int 3, .int (-1), .ref z6, .ref z7, .ref z8, .ref z9, .int (nI z10), .ref z11, .ref z12, .ref z13, .ref z14, .ref z15, .int (nI z16), .ref z17, .int z18, .ref z19]))] ++ va_pl L M) H_27 := hP
          have hD : va_D A ([(za, .inr (13, [.int 0, .ref z1, .int (nI z2), .int (nI z3), .int 3, .int (-1), .ref z6, .ref z7, .ref z8, .ref z9, .int (nI z10), .ref z11, .ref z12, .ref z13, .ref z14, .ref z15, .int (nI z16), .ref z17, .int z18, .ref z19]))] ++ va_pl L M) := hD
          have hq := Eq.symm hp_30
          subst hq
          rw [hQ]
          exact W.iret (v := (-1)) hx hb hr (fun t ht hW9 => ⟨⟨(-1), M, rfl, ⟨hW, hF, trivial⟩, ⟨3, (-1), z16, z18, (by omega), by rw [ht]; exact hP, hD⟩⟩, hS.F ht⟩) hS.2.2 dX13_bear_73
        · have hz := rfl (a := 0)
          refine lv_iload_n hx hb dX13_bear_61 rfl (lv_at hl 3 rfl) ?_
          refine lv_sipush (v := 1000) hx hb dX13_bear_62 (by decide) ?_
          refine lv_icmp_lt (tgt := 74) hx hb dX13_bear_65 (by decide) (fun c_31 => ?_) (fun c_31 => ?_)
          · have hz := rfl (a := 0)
            refine lv_aload_n hx hb dX13_bear_74 rfl (lv_at hl 1 rfl) ?_
            refine lv_iconst (v := 0) hx hb dX13_bear_75 (by decide) ?_
            refine va_put (D := D) (ci := 13) (v := .int 0) (ty := .int) (C := RX13) (T := TX13) (N := 20) hx hb hg inG13 tyX13 tyX13_ok nmX13 hown hK hP hD hS 0 rfl rfl 16 (by decide) (hg _ wd_769) (fun _ h9 => h9) rfl (by decide +kernel) rfl rfl (Nat.le_of_ble_eq_true rfl) dX13_bear_76 (fun H_32 locs hP hD hS => ?_)
            have hP : va_P D vwCl ([(za, .inr (13, [.int 0, .ref z1, .int (nI z2), .int (nI z3), .int z4, .int z5, .ref z6, .ref z7, .ref z8, .ref z9, .int (nI z10), .ref z11, .ref z12, .ref z13, .ref z14, .ref z15, .int 0, .ref z17, .int z18, .ref z19]))] ++ va_pl L M) H_32 := hP
            have hD : va_D A ([(za, .inr (13, [.int 0, .ref z1, .int (nI z2), .int (nI z3), .int z4, .int z5, .ref z6, .ref z7, .ref z8, .ref z9, .int (nI z10), .ref z11, .ref z12, .ref z13, .ref z14, .ref z15, .int 0, .ref z17, .int z18, .ref z19]))] ++ va_pl L M) := hD
            refine lv_iconst (v := 0) hx hb dX13_bear_79 (by decide) ?_
            refine lv_istore (lv' := [(5, .int 0), (4, .ref b11), (0, .ref za), (1, .int k1), (2, .int k2), (3, .int k3)]) hx hb dX13_bear_80 hl (by decide) rfl (fun ls hl => ?_)
            have key_33 : ∀ (fu_35 : Nat) (v5w36 : Nat) (zgw36 : Nat) (M_39 : Hp) (H_40 : Heap) (locs : List Loc) (ls : Array Slot), 24 - v5w36 < fu_35 → M_39 b11 = .inr (12, fs14) → v5w36 ≤ 24 → zgw36 ≤ v5w36 → WOM cy K L M_39 → fr K L [14, 15, 32] M M_39 → va_P D vwCl ([(za, .inr (13, [.int 0, .ref z1, .int (nI z2), .int (nI z3), .int z4, .int z5, .ref z6, .ref z7, .ref z8, .ref z9, .int (nI z10), .ref z11, .ref z12, .ref z13, .ref z14, .ref z15, .int (nI zgw36), .ref z17, .int z18, .ref z19]))] ++ va_pl L M_39) H_40 → va_D A ([(za, .inr (13, [.int 0, .ref z1, .int (nI z2), .int (nI z3), .int z4, .int z5, .ref z6, .ref z7, .ref z8, .ref z9, .int (nI z10), .ref z11, .ref z12, .ref z13, .ref z14, .ref z15, .int (nI zgw36), .ref z17, .int z18, .ref z19]))] ++ va_pl L M_39) → va_S A s.heap H_40 locs → lv_has ls 9 [(5, .int (nI v5w36)), (4, .ref b11), (0, .ref za), (1, .int k1), (2, .int k2), (3, .int k3)] → W p l e R s m ([.ref za, .int k1, .int k2, .int k3] : List Value).toArray below meth c H_40 locs 0 0 Q (F0 m 82 ls []) := by
              intro fu_35
              induction fu_35 with
              | zero => intro v5w36 zgw36 M_39 H_40 locs ls h; exact absurd h (Nat.not_lt_zero _)
              | succ fu_35 ih_34 =>
                intro v5w36 zgw36 M_39 H_40 locs ls hfu hM_41 hx_37 hx_38 hW hF hP hD hS hl
                refine lv_iload hx hb dX13_bear_82 (lv_at hl 0 rfl) ?_
                refine lv_aload hx hb dX13_bear_84 (lv_at hl 1 rfl) ?_
                obtain ⟨v42, hv42, hc42⟩ : ∃ v : Nat, fs14[10]? = some (.int (nI v) : Value) ∧ v ≤ 24 := hl14 10 (by decide)
                refine pg_getN (D := D) (ci := 12) (v := .int (nI v42)) (C := RX12) (T := TX12) (N := 51) hx hb hg inG12 hown hK hP hb_13.1 hM_41 rfl 10 (by decide) (hN.use (Cond.fieldLinkNest RX13 68 RX12 "tenures" "I" RX13) 19 rfl rfl) (fun _ h9 => h9) hv42 dX13_bear_86 ?_
                refine lv_icmp_ge (tgt := 282) hx hb dX13_bear_89 (by decide) (fun c_43 => ?_) (fun c_43 => ?_)
                · have hz := rfl (a := 0)
                  have n_44 : v42 ≤ v5w36 := (iLE (a := v42) (b := v5w36) (by omega) (by omega)).mp c_43
                  refine lv_aload_n hx hb dX13_bear_282 rfl (lv_at hl 2 rfl) ?_
                  refine lv_aload hx hb dX13_bear_283 (lv_at hl 1 rfl) ?_
                  refine lv_iload_n hx hb dX13_bear_285 rfl (lv_at hl 5 rfl) ?_
                  refine lv_i2l hx hb dX13_bear_286 rfl ?_
                  refine lv_topl (fun f_45 ef_45 => ?_)
                  have hPc : va_P D vwCl ([(za, .inr (13, [.int 0, .ref z1, .int (nI z2), .int (nI z3), .int z4, .int z5, .ref z6, .ref z7, .ref z8, .ref z9, .int (nI z10), .ref z11, .ref z12, .ref z13, .ref z14, .ref z15, .int (nI zgw36), .ref z17, .int z18, .ref z19]))] ++ va_pl L M_39) H_40 := hP
                  have hDc : va_D A ([(za, .inr (13, [.int 0, .ref z1, .int (nI z2), .int (nI z3), .int z4, .int z5, .ref z6, .ref z7, .ref z8, .ref z9, .int (nI z10), .ref z11, .ref z12, .ref z13, .ref z14, .ref z15, .int (nI zgw36), .ref z17, .int z18, .ref z19]))] ++ va_pl L M_39) := hD
                  have hFc : ∀ q, va_A ([(za, .inr (13, [.int 0, .ref z1, .int (nI z2), .int (nI z3), .int z4, .int z5, .ref z6, .ref z7, .ref z8, .ref z9, .int (nI z10), .ref z11, .ref z12, .ref z13, .ref z14, .ref z15, .int (nI zgw36), .ref z17, .int z18, .ref z19]))] ++ va_pl L M_39) H_40.size q → A q := pg_free hDc hS hA
                  refine va_calll (va_runV (As := [.ref b11, .long f_45]) (rest := []) ⟨hx, hb, hml, hown, hg⟩ (r_X13_bearing l D cy K L M_39 H_40.size za 0 z1 z2 z3 z4 z5 z6 z7 z8 z9 z10 z11 z12 z13 z14 z15 zgw36 z17 z18 z19 b11 f_45  hW i1 b2 b3 i6 i7 i8 i9 b10 i11 i12 i13 i14 i15 (by omega) i17 i19 hb_13) (cwV 2 hg (gV wd_799 wd_800 wd_801 wd_717 wd_802) rfl rfl rfl (by decide +kernel) ⟨(Nat.le_trans (Nat.le_of_ble_eq_true rfl) hRf), (Nat.le_trans (Nat.le_of_ble_eq_true rfl) hRl)⟩) ⟨PG.blind, va_recv hK hP (ci := 13) (q0 := 0) rfl rfl, fun U hU hW => ⟨rfl, PG.at hPc hK hDc hN hU hW⟩⟩ rfl rfl hl.1 rfl (lv_room (Nat.le_of_ble_eq_true rfl)) dX13_bear_287 ⟨(Nat.le_trans (Nat.le_of_ble_eq_true rfl) hRc), (Nat.le_trans (Nat.le_of_ble_eq_true rfl) hRs)⟩) hS (fun q _ h => hFc q h) hFc (fun r_47 M_48 t H_46 locs ht hvm hw hB hz1 hk1 hS => ?_)
                  obtain ⟨hW, hF2, hp_49⟩ := hw
                  obtain ⟨hP1, hD1⟩ := hB
                  rw [ht] at hP1
                  have hP : va_P D vwCl ([(za, .inr (13, [.int 0, .ref z1, .int (nI z2), .int (nI z3), .int z4, .int z5, .ref z6, .ref z7, .ref z8, .ref z9, .int (nI z10), .ref z11, .ref z12, .ref z13, .ref z14, .ref z15, .int (nI zgw36), .ref z17, .int z18, .ref z19]))] ++ va_pl L M_48) H_46 := hP1
                  have hD : va_D A ([(za, .inr (13, [.int 0, .ref z1, .int (nI z2), .int (nI z3), .int z4, .int z5, .ref z6, .ref z7, .ref z8, .ref z9, .int (nI z10), .ref z11, .ref z12, .ref z13, .ref z14, .ref z15, .int (nI zgw36), .ref z17, .int z18, .ref z19]))] ++ va_pl L M_48) := hD1.mono hFc
                  have hM_50 : M_48 b11 = .inr (12, fs14) := (hF2.at hb_13 (by decide)).trans hM_41
                  have hF : fr K L [14, 15, 32] M M_48 := hF.tr hF2 (by decide)
                  refine lv_lstore (lv' := [(5, .long r_47), (4, .ref b11), (0, .ref za), (1, .int k1), (2, .int k2), (3, .int k3)]) hx hb dX13_bear_290 hl (by decide) rfl (fun ls hl => ?_)
                  refine lv_iconst (v := 0) hx hb dX13_bear_292 (by decide) ?_
                  refine lv_istore (lv' := [(7, .int 0), (5, .long r_47), (4, .ref b11), (0, .ref za), (1, .int k1), (2, .int k2), (3, .int k3)]) hx hb dX13_bear_293 hl (by decide) rfl (fun ls hl => ?_)
                  have key_51 : ∀ (fu_53 : Nat) (v7w54 : Nat) (M_56 : Hp) (H_57 : Heap) (locs : List Loc) (ls : Array Slot), 24 - v7w54 < fu_53 → v7w54 ≤ 24 → WOM cy K L M_56 → fr K L [14, 15, 32] M M_56 → va_P D vwCl ([(za, .inr (13, [.int 0, .ref z1, .int (nI z2), .int (nI z3), .int z4, .int z5, .ref z6, .ref z7, .ref z8, .ref z9, .int (nI z10), .ref z11, .ref z12, .ref z13, .ref z14, .ref z15, .int (nI zgw36), .ref z17, .int z18, .ref z19]))] ++ va_pl L M_56) H_57 → va_D A ([(za, .inr (13, [.int 0, .ref z1, .int (nI z2), .int (nI z3), .int z4, .int z5, .ref z6, .ref z7, .ref z8, .ref z9, .int (nI z10), .ref z11, .ref z12, .ref z13, .ref z14, .ref z15, .int (nI zgw36), .ref z17, .int z18, .ref z19]))] ++ va_pl L M_56) → va_S A s.heap H_57 locs → lv_has ls 9 [(7, .int (nI v7w54)), (5, .long r_47), (4, .ref b11), (0, .ref za), (1, .int k1), (2, .int k2), (3, .int k3)] → W p l e R s m ([.ref za, .int k1, .int k2, .int k3] : List Value).toArray below meth c H_57 locs 0 0 Q (F0 m 295 ls []) := by
                    intro fu_53
                    induction fu_53 with
                    | zero => intro v7w54 M_56 H_57 locs ls h; exact absurd h (Nat.not_lt_zero _)
                    | succ fu_53 ih_52 =>
                      intro v7w54 M_56 H_57 locs ls hfu hx_55 hW hF hP hD hS hl
                      refine lv_iload hx hb dX13_bear_295 (lv_at hl 0 rfl) ?_
                      refine lv_bipush (v := 24) hx hb dX13_bear_297 (by decide) ?_
                      refine lv_icmp_ge (tgt := 316) hx hb dX13_bear_299 (by decide) (fun c_58 => ?_) (fun c_58 => ?_)
                      · have hz := rfl (a := 0)
                        have n_59 : 24 ≤ v7w54 := (iLE (a := 24) (b := v7w54) (by omega) (by omega)).mp c_58
                        refine lv_iconst (v := 0) hx hb dX13_bear_316 (by decide) ?_
                        refine lv_istore (lv' := [(7, .int 0), (5, .long r_47), (4, .ref b11), (0, .ref za), (1, .int k1), (2, .int k2), (3, .int k3)]) hx hb dX13_bear_317 hl (by decide) rfl (fun ls hl => ?_)
                        refine lv_iconst (v := 0) hx hb dX13_bear_319 (by decide) ?_
                        refine lv_istore (lv' := [(8, .int 0), (7, .int 0), (5, .long r_47), (4, .ref b11), (0, .ref za), (1, .int k1), (2, .int k2), (3, .int k3)]) hx hb dX13_bear_320 hl (by decide) rfl (fun ls hl => ?_)
                        have key_60 : ∀ (fu_62 : Nat) (v7w63 : Int32) (v8w63 : Nat) (M_65 : Hp) (H_66 : Heap) (locs : List Loc) (ls : Array Slot), 24 - v8w63 < fu_62 → v8w63 ≤ 24 → WOM cy K L M_65 → fr K L [14, 15, 32] M M_65 → va_P D vwCl ([(za, .inr (13, [.int 0, .ref z1, .int (nI z2), .int (nI z3), .int z4, .int z5, .ref z6, .ref z7, .ref z8, .ref z9, .int (nI z10), .ref z11, .ref z12, .ref z13, .ref z14, .ref z15, .int (nI zgw36), .ref z17, .int z18, .ref z19]))] ++ va_pl L M_65) H_66 → va_D A ([(za, .inr (13, [.int 0, .ref z1, .int (nI z2), .int (nI z3), .int z4, .int z5, .ref z6, .ref z7, .ref z8, .ref z9, .int (nI z10), .ref z11, .ref z12, .ref z13, .ref z14, .ref z15, .int (nI zgw36), .ref z17, .int z18, .ref z19]))] ++ va_pl L M_65) → va_S A s.heap H_66 locs → lv_has ls 9 [(8, .int (nI v8w63)), (7, .int v7w63), (5, .long r_47), (4, .ref b11), (0, .ref za), (1, .int k1), (2, .int k2), (3, .int k3)] → W p l e R s m ([.ref za, .int k1, .int k2, .int k3] : List Value).toArray below meth c H_66 locs 0 0 Q (F0 m 322 ls []) := by
                          intro fu_62
                          induction fu_62 with
                          | zero => intro v7w63 v8w63 M_65 H_66 locs ls h; exact absurd h (Nat.not_lt_zero _)
                          | succ fu_62 ih_61 =>
                            intro v7w63 v8w63 M_65 H_66 locs ls hfu hx_64 hW hF hP hD hS hl
                            refine lv_iload hx hb dX13_bear_322 (lv_at hl 0 rfl) ?_
                            refine lv_aload_n hx hb dX13_bear_324 rfl (lv_at hl 4 rfl) ?_
                            refine va_get (D := D) (ci := 13) (v := .int (nI zgw36)) (C := RX13) (T := TX13) (N := 20) hx hb hg inG13 hown hK hP 0 rfl rfl 16 (by decide) (hg _ wd_769) (fun _ h9 => h9) rfl dX13_bear_325 ?_
                            refine lv_icmp_ge (tgt := 379) hx hb dX13_bear_328 (by decide) (fun c_67 => ?_) (fun c_67 => ?_)
                            · have hz := rfl (a := 0)
                              have n_68 : zgw36 ≤ v8w63 := (iLE (a := zgw36) (b := v8w63) (by omega) (by omega)).mp c_67
                              refine lv_aload_n hx hb dX13_bear_379 rfl (lv_at hl 4 rfl) ?_
                              refine lv_lload hx hb dX13_bear_380 (lv_at hl 2 rfl) ?_
                              refine lv_l2i hx hb dX13_bear_382 rfl ?_
                              refine lv_topi (fun f_69 ef_69 => ?_)
                              refine va_put (D := D) (ci := 13) (v := .int f_69) (ty := .int) (C := RX13) (T := TX13) (N := 20) hx hb hg inG13 tyX13 tyX13_ok nmX13 hown hK hP hD hS 0 rfl rfl 18 (by decide) (hg _ wd_722) (fun _ h9 => h9) rfl (by decide +kernel) rfl rfl (Nat.le_of_ble_eq_true rfl) dX13_bear_383 (fun H_70 locs hP hD hS => ?_)
                              have hP : va_P D vwCl ([(za, .inr (13, [.int 0, .ref z1, .int (nI z2), .int (nI z3), .int z4, .int z5, .ref z6, .ref z7, .ref z8, .ref z9, .int (nI z10), .ref z11, .ref z12, .ref z13, .ref z14, .ref z15, .int (nI zgw36), .ref z17, .int f_69, .ref z19]))] ++ va_pl L M_65) H_70 := hP
                              have hD : va_D A ([(za, .inr (13, [.int 0, .ref z1, .int (nI z2), .int (nI z3), .int z4, .int z5, .ref z6, .ref z7, .ref z8, .ref z9, .int (nI z10), .ref z11, .ref z12, .ref z13, .ref z14, .ref z15, .int (nI zgw36), .ref z17, .int f_69, .ref z19]))] ++ va_pl L M_65) := hD
                              refine lv_aload_n hx hb dX13_bear_386 rfl (lv_at hl 4 rfl) ?_
                              refine lv_iload hx hb dX13_bear_387 (lv_at hl 1 rfl) ?_
                              have hPc := hP.sub (ws' := [(za, .inr (13, [.int 0, .ref z1, .int (nI z2), .int (nI z3), .int z4, .int z5, .ref z6, .ref z7, .ref z8, .ref z9, .int (nI z10), .ref z11, .ref z12, .ref z13, .ref z14, .ref z15, .int (nI zgw36), .ref z17, .int f_69, .ref z19]))]) [0] rfl
                              have hDc := hD.sub (ws' := [(za, .inr (13, [.int 0, .ref z1, .int (nI z2), .int (nI z3), .int z4, .int z5, .ref z6, .ref z7, .ref z8, .ref z9, .int (nI z10), .ref z11, .ref z12, .ref z13, .ref z14, .ref z15, .int (nI zgw36), .ref z17, .int f_69, .ref z19]))]) [0] (by decide) rfl
                              have hKc := hK.sub (tys' := []) [] rfl
                              have hFc := va_free (wc := [(za, .inr (13, [.int 0, .ref z1, .int (nI z2), .int (nI z3), .int z4, .int z5, .ref z6, .ref z7, .ref z8, .ref z9, .int (nI z10), .ref z11, .ref z12, .ref z13, .ref z14, .ref z15, .int (nI zgw36), .ref z17, .int f_69, .ref z19]))]) hD hS hA [0] rfl
                              refine va_calli (va_runV (As := [.int v7w63]) (rest := []) ⟨hx, hb, hml, hown, hg⟩ (m_done l D H_70.size za 0 z1 (nI z2) (nI z3) z4 z5 z6 z7 z8 z9 (nI z10) z11 z12 z13 z14 z15 (nI zgw36) z17 f_69 z19 v7w63) (cwV 1 hg (gV wd_730 wd_731 wd_732 wd_717 wd_733) rfl rfl rfl (by decide +kernel) ⟨(Nat.le_trans (Nat.le_of_ble_eq_true rfl) hRf), (Nat.le_trans (Nat.le_of_ble_eq_true rfl) hRl)⟩) ⟨Pr.blind, va_recv hK hP (ci := 13) (q0 := 0) rfl rfl, fun U hU hW => ⟨rfl, Pr.at hPc hKc hDc hN hU hW⟩⟩ rfl rfl hl.1 rfl (lv_room (Nat.le_of_ble_eq_true rfl)) dX13_bear_389 ⟨(Nat.le_trans (Nat.le_of_ble_eq_true rfl) hRc), (Nat.le_trans (Nat.le_of_ble_eq_true rfl) hRs)⟩) hS (fun q _ h => hFc q h) hFc (fun r_72 M_73 t H_71 locs ht hvm hw hB hz1 hk1 hS => ?_)
                              have hp_74 := hw
                              obtain ⟨hP1, hK1, hD1⟩ := hB
                              rw [ht] at hP1
                              obtain ⟨hP, hD⟩ := va_joinQ (X := [(za, .inr (13, [.int 0, .ref z1, .int (nI z2), .int (nI z3), .int z4, .int z5, .ref z6, .ref z7, .ref z8, .ref z9, .int (nI z10), .ref z11, .ref z12, .ref z13, .ref z14, .ref z15, .int (nI zgw36), .ref z17, .int f_69, .ref z19]))]) (cx := [(za, .inr (13, [.int 0, .ref z1, .int (nI z2), .int (nI z3), .int z4, .int z5, .ref z6, .ref z7, .ref z8, .ref z9, .int (nI z10), .ref z11, .ref z12, .ref z13, .ref z14, .ref z15, .int (nI zgw36), .ref z17, .int f_69, .ref z19]))]) (wr := []) (w1 := [(za, .inr (13, [.int 0, .ref z1, .int (nI z2), .int (nI z3), .int 0, .int (-1), .ref z6, .ref z7, .ref z8, .ref z9, .int (nI z10), .ref z11, .ref z12, .ref z13, .ref z14, .ref z15, .int (nI zgw36), .ref z17, .int f_69, .ref z19]))]) (pl := va_pl L M_65) hP hD [0] [] rfl rfl (by decide) (by decide) hk1 hFc hP1 hD1
                              have hP : va_P D vwCl ([(za, .inr (13, [.int 0, .ref z1, .int (nI z2), .int (nI z3), .int 0, .int (-1), .ref z6, .ref z7, .ref z8, .ref z9, .int (nI z10), .ref z11, .ref z12, .ref z13, .ref z14, .ref z15, .int (nI zgw36), .ref z17, .int f_69, .ref z19]))] ++ va_pl L M_65) H_71 := hP
                              have hD : va_D A ([(za, .inr (13, [.int 0, .ref z1, .int (nI z2), .int (nI z3), .int 0, .int (-1), .ref z6, .ref z7, .ref z8, .ref z9, .int (nI z10), .ref z11, .ref z12, .ref z13, .ref z14, .ref z15, .int (nI zgw36), .ref z17, .int f_69, .ref z19]))] ++ va_pl L M_65) := hD
                              have hq := Eq.symm hp_74
                              subst hq
                              rw [hQ]
                              exact W.iret (v := v7w63) hx hb hr (fun t ht hW9 => ⟨⟨v7w63, M_65, rfl, ⟨hW, hF, trivial⟩, ⟨0, (-1), zgw36, f_69, (by omega), by rw [ht]; exact hP, hD⟩⟩, hS.F ht⟩) hS.2.2 dX13_bear_392
                            · have hz := rfl (a := 0)
                              have n_75 : ¬ (zgw36 ≤ v8w63) := fun q => c_67 ((iLE (a := zgw36) (b := v8w63) (by omega) (by omega)).mpr q)
                              refine lv_aload_n hx hb dX13_bear_331 rfl (lv_at hl 4 rfl) ?_
                              refine va_get (D := D) (ci := 13) (v := .ref z17) (C := RX13) (T := TX13) (N := 20) hx hb hg inG13 hown hK hP 0 rfl rfl 17 (by decide) (hg _ wd_721) (fun _ h9 => h9) rfl dX13_bear_332 ?_
                              refine lv_aload_n hx hb dX13_bear_335 rfl (lv_at hl 4 rfl) ?_
                              refine va_get (D := D) (ci := 13) (v := .ref z11) (C := RX13) (T := TX13) (N := 20) hx hb hg inG13 hown hK hP 0 rfl rfl 11 (by decide) (hg _ wd_764) (fun _ h9 => h9) rfl dX13_bear_336 ?_
                              refine lv_iload hx hb dX13_bear_339 (lv_at hl 0 rfl) ?_
                              obtain ⟨f76, hM76, hf76⟩ := hW.open_32 i11
                              have hi_77 : vp_in (nI v8w63) 24 := (inbN v8w63 24 (by omega) (by omega))
                              refine pg_iald hx hb hK hP i11.1 0 hM76 rfl hi_77 dX13_bear_341 ?_
                              have hp_78 := hf76 _ (vp_lt hi_77)
                              obtain ⟨c_79, hc_80, ec_81⟩ := hp_78
                              rw [ec_81]
                              refine lv_aload_n hx hb dX13_bear_342 rfl (lv_at hl 4 rfl) ?_
                              refine va_get (D := D) (ci := 13) (v := .ref z13) (C := RX13) (T := TX13) (N := 20) hx hb hg inG13 hown hK hP 0 rfl rfl 13 (by decide) (hg _ wd_789) (fun _ h9 => h9) rfl dX13_bear_343 ?_
                              refine lv_iload hx hb dX13_bear_346 (lv_at hl 0 rfl) ?_
                              obtain ⟨f82, hM82⟩ := hW.open_15 i13
                              refine pg_lald hx hb hK hP i13.1 1 hM82 rfl (inbN v8w63 24 (by omega) (by omega)) dX13_bear_348 ?_
                              refine lv_topl (fun f_83 ef_83 => ?_)
                              refine lv_l2i hx hb dX13_bear_349 rfl ?_
                              refine lv_topi (fun f_84 ef_84 => ?_)
                              obtain ⟨f85, hM85⟩ := hW.open_14 i17
                              refine pg_iast hx hb hK hP hD hS i17.1 0 hM85 rfl (inbN c_79 24 (by omega) (by omega)) dX13_bear_350 (fun H_86 locs hP hD hS => ?_)
                              obtain ⟨M_87, eM_87⟩ : ∃ M1 : Hp, M1 = va_up M_65 z17 (.inl (cy 14, 24, .inl (upd f85 ((nI c_79) : Int32).toNatClampNeg f_84))) := ⟨_, rfl⟩
                              have hP : va_P D vwCl ([(za, .inr (13, [.int 0, .ref z1, .int (nI z2), .int (nI z3), .int z4, .int z5, .ref z6, .ref z7, .ref z8, .ref z9, .int (nI z10), .ref z11, .ref z12, .ref z13, .ref z14, .ref z15, .int (nI zgw36), .ref z17, .int z18, .ref z19]))] ++ va_pl L M_87) H_86 := by rw [eM_87]; exact hP
                              have hD : va_D A ([(za, .inr (13, [.int 0, .ref z1, .int (nI z2), .int (nI z3), .int z4, .int z5, .ref z6, .ref z7, .ref z8, .ref z9, .int (nI z10), .ref z11, .ref z12, .ref z13, .ref z14, .ref z15, .int (nI zgw36), .ref z17, .int z18, .ref z19]))] ++ va_pl L M_87) := by rw [eM_87]; exact hD
                              have hW : WOM cy K L M_87 := by rw [eM_87]; exact hW.up_14 i17 ⟨_, rfl⟩
                              have hF : fr K L [14, 15, 32] M M_87 := by rw [eM_87]; exact hF.up i17 (by decide)
                              have hM_88 : M_87 z17 = .inl (cy 14, 24, .inl (upd f85 ((nI c_79) : Int32).toNatClampNeg f_84)) := by rw [eM_87]; exact va_up_self _ _ _
                              have hM_89 : M_87 z11 = .inl (cy 14, 24, .inl (f76)) := by rw [eM_87, va_up_ne _ _ (i11.neT i17 (by decide))]; exact hM76
                              have hM_90 : M_87 z13 = .inl (cy 15, 24, .inr (.inl (f82))) := by rw [eM_87, va_up_ne _ _ (i13.neT i17 (by decide))]; exact hM82
                              obtain ⟨f_91, ef_91⟩ : ∃ f : Nat → Int32, f = upd f85 ((nI c_79) : Int32).toNatClampNeg f_84 := ⟨_, rfl⟩
                              rw [← ef_91] at hM_88
                              clear ef_91
                              refine lv_iload hx hb dX13_bear_351 (lv_at hl 1 rfl) ?_
                              refine lv_aload_n hx hb dX13_bear_353 rfl (lv_at hl 4 rfl) ?_
                              refine va_get (D := D) (ci := 13) (v := .ref z13) (C := RX13) (T := TX13) (N := 20) hx hb hg inG13 hown hK hP 0 rfl rfl 13 (by decide) (hg _ wd_789) (fun _ h9 => h9) rfl dX13_bear_354 ?_
                              refine lv_iload hx hb dX13_bear_357 (lv_at hl 0 rfl) ?_
                              refine pg_lald hx hb hK hP i13.1 1 hM_90 rfl (inbN v8w63 24 (by omega) (by omega)) dX13_bear_359 ?_
                              refine lv_topl (fun f_92 ef_92 => ?_)
                              refine lv_lconst (v := 0) hx hb dX13_bear_360 (by decide) ?_
                              refine W.lcmp hx hb dX13_bear_361 ?_
                              refine lv_if_le (tgt := 369) hx hb dX13_bear_362 (by decide) (fun c_93 => ?_) (fun c_93 => ?_)
                              · have hz := rfl (a := 0)
                                have d_94 : f_92 ≤ 0 := lc_let c_93
                                refine lv_iconst (v := 0) hx hb dX13_bear_369 (by decide) ?_
                                refine lv_iadd hx hb dX13_bear_370 ?_
                                refine lv_topi (fun f_95 ef_95 => ?_)
                                refine lv_istore (lv' := [(7, .int f_95), (8, .int (nI v8w63)), (5, .long r_47), (4, .ref b11), (0, .ref za), (1, .int k1), (2, .int k2), (3, .int k3)]) hx hb dX13_bear_371 hl (by decide) rfl (fun ls hl => ?_)
                                refine lv_iinc (v := (nI (v8w63 + 1))) (lv' := [(8, .int (nI (v8w63 + 1))), (7, .int f_95), (5, .long r_47), (4, .ref b11), (0, .ref za), (1, .int k1), (2, .int k2), (3, .int k3)]) hx hb dX13_bear_373 hl (k := 1) rfl (nI_1 v8w63) (by decide) rfl (fun ls hl => ?_)
                                refine lv_goto (tgt := 322) hx hb dX13_bear_376 (by decide) ?_
                                exact ih_61 f_95 (v8w63 + 1) M_87 H_86 _ _ (by omega) (by omega) hW hF hP hD hS (lv_sub hl [0, 1, 2, 3, 4, 5, 6, 7] rfl)
                              · have hz := rfl (a := 0)
                                have d_94 : ¬ f_92 ≤ 0 := lc_lef c_93
                                refine lv_iconst (v := 1) hx hb dX13_bear_365 (by decide) ?_
                                refine lv_goto (tgt := 370) hx hb dX13_bear_366 (by decide) ?_
                                refine lv_iadd hx hb dX13_bear_370 ?_
                                refine lv_topi (fun f_96 ef_96 => ?_)
                                refine lv_istore (lv' := [(7, .int f_96), (8, .int (nI v8w63)), (5, .long r_47), (4, .ref b11), (0, .ref za), (1, .int k1), (2, .int k2), (3, .int k3)]) hx hb dX13_bear_371 hl (by decide) rfl (fun ls hl => ?_)
                                refine lv_iinc (v := (nI (v8w63 + 1))) (lv' := [(8, .int (nI (v8w63 + 1))), (7, .int f_96), (5, .long r_47), (4, .ref b11), (0, .ref za), (1, .int k1), (2, .int k2), (3, .int k3)]) hx hb dX13_bear_373 hl (k := 1) rfl (nI_1 v8w63) (by decide) rfl (fun ls hl => ?_)
                                refine lv_goto (tgt := 322) hx hb dX13_bear_376 (by decide) ?_
                                exact ih_61 f_96 (v8w63 + 1) M_87 H_86 _ _ (by omega) (by omega) hW hF hP hD hS (lv_sub hl [0, 1, 2, 3, 4, 5, 6, 7] rfl)
                        exact key_60 (24 - 0 + 1) 0 0 M_56 H_57 _ _ (by omega) (by omega) hW hF hP hD hS (lv_sub hl [0, 1, 2, 3, 4, 5, 6, 7] rfl)
                      · have hz := rfl (a := 0)
                        have n_97 : ¬ (24 ≤ v7w54) := fun q => c_58 ((iLE (a := 24) (b := v7w54) (by omega) (by omega)).mpr q)
                        refine lv_aload_n hx hb dX13_bear_302 rfl (lv_at hl 3 rfl) ?_
                        refine va_get (D := D) (ci := 13) (v := .ref z17) (C := RX13) (T := TX13) (N := 20) hx hb hg inG13 hown hK hP 0 rfl rfl 17 (by decide) (hg _ wd_721) (fun _ h9 => h9) rfl dX13_bear_303 ?_
                        refine lv_iload hx hb dX13_bear_306 (lv_at hl 0 rfl) ?_
                        refine lv_iconst (v := 0) hx hb dX13_bear_308 (by decide) ?_
                        obtain ⟨f98, hM98⟩ := hW.open_14 i17
                        refine pg_iast hx hb hK hP hD hS i17.1 0 hM98 rfl (inbN v7w54 24 (by omega) (by omega)) dX13_bear_309 (fun H_99 locs hP hD hS => ?_)
                        obtain ⟨M_100, eM_100⟩ : ∃ M1 : Hp, M1 = va_up M_56 z17 (.inl (cy 14, 24, .inl (upd f98 ((nI v7w54) : Int32).toNatClampNeg 0))) := ⟨_, rfl⟩
                        have hP : va_P D vwCl ([(za, .inr (13, [.int 0, .ref z1, .int (nI z2), .int (nI z3), .int z4, .int z5, .ref z6, .ref z7, .ref z8, .ref z9, .int (nI z10), .ref z11, .ref z12, .ref z13, .ref z14, .ref z15, .int (nI zgw36), .ref z17, .int z18, .ref z19]))] ++ va_pl L M_100) H_99 := by rw [eM_100]; exact hP
                        have hD : va_D A ([(za, .inr (13, [.int 0, .ref z1, .int (nI z2), .int (nI z3), .int z4, .int z5, .ref z6, .ref z7, .ref z8, .ref z9, .int (nI z10), .ref z11, .ref z12, .ref z13, .ref z14, .ref z15, .int (nI zgw36), .ref z17, .int z18, .ref z19]))] ++ va_pl L M_100) := by rw [eM_100]; exact hD
                        have hW : WOM cy K L M_100 := by rw [eM_100]; exact hW.up_14 i17 ⟨_, rfl⟩
                        have hF : fr K L [14, 15, 32] M M_100 := by rw [eM_100]; exact hF.up i17 (by decide)
                        have hM_101 : M_100 z17 = .inl (cy 14, 24, .inl (upd f98 ((nI v7w54) : Int32).toNatClampNeg 0)) := by rw [eM_100]; exact va_up_self _ _ _
                        obtain ⟨f_102, ef_102⟩ : ∃ f : Nat → Int32, f = upd f98 ((nI v7w54) : Int32).toNatClampNeg 0 := ⟨_, rfl⟩
                        rw [← ef_102] at hM_101
                        clear ef_102
                        refine lv_iinc (v := (nI (v7w54 + 1))) (lv' := [(7, .int (nI (v7w54 + 1))), (5, .long r_47), (4, .ref b11), (0, .ref za), (1, .int k1), (2, .int k2), (3, .int k3)]) hx hb dX13_bear_310 hl (k := 0) rfl (nI_1 v7w54) (by decide) rfl (fun ls hl => ?_)
                        refine lv_goto (tgt := 295) hx hb dX13_bear_313 (by decide) ?_
                        exact ih_52 (v7w54 + 1) M_100 H_99 _ _ (by omega) (by omega) hW hF hP hD hS (lv_sub hl [0, 1, 2, 3, 4, 5, 6] rfl)
                  exact key_51 (24 - 0 + 1) 0 M_48 H_46 _ _ (by omega) (by omega) hW hF hP hD hS (lv_sub hl [0, 1, 2, 3, 4, 5, 6] rfl)
                · have hz := rfl (a := 0)
                  have n_103 : ¬ (v42 ≤ v5w36) := fun q => c_43 ((iLE (a := v42) (b := v5w36) (by omega) (by omega)).mpr q)
                  refine lv_aload hx hb dX13_bear_92 (lv_at hl 1 rfl) ?_
                  refine lv_iload hx hb dX13_bear_94 (lv_at hl 0 rfl) ?_
                  refine lv_iload_n hx hb dX13_bear_96 rfl (lv_at hl 4 rfl) ?_
                  have hPc : va_P D vwCl ([] ++ va_pl L M_39) H_40 := hP.part (cx := []) [] rfl
                  have hDc : va_D A ([] ++ va_pl L M_39) := hD.part (cx := []) [] (by decide) rfl
                  have hFc : ∀ q, va_A ([] ++ va_pl L M_39) H_40.size q → A q := pg_free hDc hS hA
                  refine va_calli (va_runV (As := [.int (nI v5w36), .int k2]) (rest := []) ⟨hx, hb, hml, hown, hg⟩ (r_X12_isIn l D cy K L M_39 H_40.size b11 v5w36 k2  hW hb_13 (by omega)) (cwV 2 hg (gV wd_748 wd_749 wd_750 wd_737 wd_751) rfl rfl rfl (by decide +kernel) ⟨(Nat.le_trans (Nat.le_of_ble_eq_true rfl) hRf), (Nat.le_trans (Nat.le_of_ble_eq_true rfl) hRl)⟩) ⟨PG.blind, pg_recv hK hP hb_13.1 hM_41 rfl, fun U hU hW => ⟨rfl, PG.at hPc hK hDc hN hU hW⟩⟩ rfl rfl hl.1 rfl (lv_room (Nat.le_of_ble_eq_true rfl)) dX13_bear_97 ⟨(Nat.le_trans (Nat.le_of_ble_eq_true rfl) hRc), (Nat.le_trans (Nat.le_of_ble_eq_true rfl) hRs)⟩) hS (fun q _ h => hFc q h) hFc (fun r_105 M_106 t H_104 locs ht hvm hw hB hz1 hk1 hS => ?_)
                  have hp_107 := hw
                  obtain ⟨hP1, hD1⟩ := hB
                  rw [ht] at hP1
                  obtain ⟨hP, hD⟩ := va_joinP (X := [(za, .inr (13, [.int 0, .ref z1, .int (nI z2), .int (nI z3), .int z4, .int z5, .ref z6, .ref z7, .ref z8, .ref z9, .int (nI z10), .ref z11, .ref z12, .ref z13, .ref z14, .ref z15, .int (nI zgw36), .ref z17, .int z18, .ref z19]))]) (cx := []) (wr := [(za, .inr (13, [.int 0, .ref z1, .int (nI z2), .int (nI z3), .int z4, .int z5, .ref z6, .ref z7, .ref z8, .ref z9, .int (nI z10), .ref z11, .ref z12, .ref z13, .ref z14, .ref z15, .int (nI zgw36), .ref z17, .int z18, .ref z19]))]) (rx := []) (pl := va_pl L M_39) (pl1 := va_pl L M_39) hP hD [] [0] rfl rfl (by decide) (by decide) hk1 hFc hP1 hD1
                  have hP : va_P D vwCl ([(za, .inr (13, [.int 0, .ref z1, .int (nI z2), .int (nI z3), .int z4, .int z5, .ref z6, .ref z7, .ref z8, .ref z9, .int (nI z10), .ref z11, .ref z12, .ref z13, .ref z14, .ref z15, .int (nI zgw36), .ref z17, .int z18, .ref z19]))] ++ va_pl L M_39) H_104 := hP
                  have hD : va_D A ([(za, .inr (13, [.int 0, .ref z1, .int (nI z2), .int (nI z3), .int z4, .int z5, .ref z6, .ref z7, .ref z8, .ref z9, .int (nI z10), .ref z11, .ref z12, .ref z13, .ref z14, .ref z15, .int (nI zgw36), .ref z17, .int z18, .ref z19]))] ++ va_pl L M_39) := hD
                  rcases hp_107 with rfl | rfl
                  · have hz := rfl (a := 0)
                    refine lv_if_eq (tgt := 143) hx hb dX13_bear_100 (by decide) (fun c_108 => absurd c_108 (by decide)) (fun _ => ?_)
                    refine lv_aload hx hb dX13_bear_103 (lv_at hl 1 rfl) ?_
                    obtain ⟨v109, hv109, hc109⟩ : ∃ v : Nat, fs14[22]? = some (.ref v : Value) ∧ isk K L v 41 24 := hl14 22 (by decide)
                    refine pg_getN (D := D) (ci := 12) (v := .ref v109) (C := RX12) (T := TX12) (N := 51) hx hb hg inG12 hown hK hP hb_13.1 hM_41 rfl 22 (by decide) (hN.use (Cond.fieldLinkNest RX13 95 RX12 "ended" "[I" RX13) 31 rfl rfl) (fun _ h9 => h9) hv109 dX13_bear_105 ?_
                    refine lv_iload hx hb dX13_bear_108 (lv_at hl 0 rfl) ?_
                    obtain ⟨f110, hM110⟩ := hW.open_41 hc109
                    refine pg_iald hx hb hK hP hc109.1 0 hM110 rfl (inbN v5w36 24 (by omega) (by omega)) dX13_bear_110 ?_
                    refine lv_topi (fun f_111 ef_111 => ?_)
                    refine lv_iconst (v := (-1)) hx hb dX13_bear_111 (by decide) ?_
                    refine lv_icmp_eq (tgt := 139) hx hb dX13_bear_112 (by decide) (fun c_112 => ?_) (fun c_112 => ?_)
                    · have hz := rfl (a := 0)
                      refine lv_iconst (v := 1) hx hb dX13_bear_139 (by decide) ?_
                      refine lv_goto (tgt := 144) hx hb dX13_bear_140 (by decide) ?_
                      refine lv_istore (lv' := [(6, .int 1), (5, .int (nI v5w36)), (4, .ref b11), (0, .ref za), (1, .int k1), (2, .int k2), (3, .int k3)]) hx hb dX13_bear_144 hl (by decide) rfl (fun ls hl => ?_)
                      refine lv_aload hx hb dX13_bear_146 (lv_at hl 2 rfl) ?_
                      obtain ⟨v113, hv113, hc113⟩ : ∃ v : Nat, fs14[21]? = some (.ref v : Value) ∧ isk K L v 14 24 := hl14 21 (by decide)
                      refine pg_getN (D := D) (ci := 12) (v := .ref v113) (C := RX12) (T := TX12) (N := 51) hx hb hg inG12 hown hK hP hb_13.1 hM_41 rfl 21 (by decide) (hN.use (Cond.fieldLinkNest RX13 112 RX12 "begin" "[I" RX13) 30 rfl rfl) (fun _ h9 => h9) hv113 dX13_bear_148 ?_
                      refine lv_iload hx hb dX13_bear_151 (lv_at hl 1 rfl) ?_
                      obtain ⟨f114, hM114⟩ := hW.open_14 hc113
                      refine pg_iald hx hb hK hP hc113.1 0 hM114 rfl (inbN v5w36 24 (by omega) (by omega)) dX13_bear_153 ?_
                      refine lv_topi (fun f_115 ef_115 => ?_)
                      refine lv_iload_n hx hb dX13_bear_154 rfl (lv_at hl 5 rfl) ?_
                      refine lv_icmp_le (tgt := 185) hx hb dX13_bear_155 (by decide) (fun c_116 => ?_) (fun c_116 => ?_)
                      · have hz := rfl (a := 0)
                        refine lv_iconst (v := 0) hx hb dX13_bear_185 (by decide) ?_
                        refine lv_istore (lv' := [(7, .int 0), (6, .int 1), (5, .int (nI v5w36)), (4, .ref b11), (0, .ref za), (1, .int k1), (2, .int k2), (3, .int k3)]) hx hb dX13_bear_186 hl (by decide) rfl (fun ls hl => ?_)
                        refine lv_iload hx hb dX13_bear_188 (lv_at hl 1 rfl) ?_
                        refine lv_if_ne (tgt := 201) hx hb dX13_bear_190 (by decide) (fun _ => ?_) (fun c_117 => absurd c_117 (by decide))
                        refine lv_aload_n hx hb dX13_bear_201 rfl (lv_at hl 4 rfl) ?_
                        refine va_get (D := D) (ci := 13) (v := .ref z11) (C := RX13) (T := TX13) (N := 20) hx hb hg inG13 hown hK hP 0 rfl rfl 11 (by decide) (hg _ wd_764) (fun _ h9 => h9) rfl dX13_bear_202 ?_
                        refine lv_aload_n hx hb dX13_bear_205 rfl (lv_at hl 4 rfl) ?_
                        refine va_get (D := D) (ci := 13) (v := .int (nI zgw36)) (C := RX13) (T := TX13) (N := 20) hx hb hg inG13 hown hK hP 0 rfl rfl 16 (by decide) (hg _ wd_769) (fun _ h9 => h9) rfl dX13_bear_206 ?_
                        refine lv_iload hx hb dX13_bear_209 (lv_at hl 2 rfl) ?_
                        obtain ⟨f118, hM118, hf118⟩ := hW.open_32 i11
                        refine pg_iast hx hb hK hP hD hS i11.1 0 hM118 rfl (inbN zgw36 24 (by omega) (by omega)) dX13_bear_211 (fun H_119 locs hP hD hS => ?_)
                        obtain ⟨M_120, eM_120⟩ : ∃ M1 : Hp, M1 = va_up M_39 z11 (.inl (cy 14, 24, .inl (upd f118 ((nI zgw36) : Int32).toNatClampNeg (nI v5w36)))) := ⟨_, rfl⟩
                        have hP : va_P D vwCl ([(za, .inr (13, [.int 0, .ref z1, .int (nI z2), .int (nI z3), .int z4, .int z5, .ref z6, .ref z7, .ref z8, .ref z9, .int (nI z10), .ref z11, .ref z12, .ref z13, .ref z14, .ref z15, .int (nI zgw36), .ref z17, .int z18, .ref z19]))] ++ va_pl L M_120) H_119 := by rw [eM_120]; exact hP
                        have hD : va_D A ([(za, .inr (13, [.int 0, .ref z1, .int (nI z2), .int (nI z3), .int z4, .int z5, .ref z6, .ref z7, .ref z8, .ref z9, .int (nI z10), .ref z11, .ref z12, .ref z13, .ref z14, .ref z15, .int (nI zgw36), .ref z17, .int z18, .ref z19]))] ++ va_pl L M_120) := by rw [eM_120]; exact hD
                        have hW : WOM cy K L M_120 := by rw [eM_120]; exact hW.up_32 i11 ⟨_, rfl, (updP (P := fun z => ∃ c : Nat, c < 24 ∧ z = nI c) hf118 ⟨v5w36, by omega, rfl⟩)⟩
                        have hF : fr K L [14, 15, 32] M M_120 := by rw [eM_120]; exact hF.up i11 (by decide)
                        have hM_121 : M_120 z11 = .inl (cy 14, 24, .inl (upd f118 ((nI zgw36) : Int32).toNatClampNeg (nI v5w36))) := by rw [eM_120]; exact va_up_self _ _ _
                        have hM_122 : M_120 b11 = .inr (12, fs14) := by rw [eM_120, va_up_ne _ _ (hb_13.neT i11 (by decide))]; exact hM_41
                        have hM_123 : M_120 v109 = .inl (cy 14, 24, .inl (f110)) := by rw [eM_120, va_up_ne _ _ (hc109.neT i11 (by decide))]; exact hM110
                        have hM_124 : M_120 v113 = .inl (cy 14, 24, .inl (f114)) := by rw [eM_120, va_up_ne _ _ (hc113.neT i11 (by decide))]; exact hM114
                        have hf_126 : ∀ j, j < 24 → ∃ c : Nat, c < 24 ∧ (upd f118 ((nI zgw36) : Int32).toNatClampNeg (nI v5w36)) j = nI c := (updP (P := fun z => ∃ c : Nat, c < 24 ∧ z = nI c) hf118 ⟨v5w36, by omega, rfl⟩)
                        obtain ⟨f_125, ef_125⟩ : ∃ f : Nat → Int32, f = upd f118 ((nI zgw36) : Int32).toNatClampNeg (nI v5w36) := ⟨_, rfl⟩
                        rw [← ef_125] at hM_121 hf_126
                        clear ef_125
                        refine lv_aload_n hx hb dX13_bear_212 rfl (lv_at hl 4 rfl) ?_
                        refine va_get (D := D) (ci := 13) (v := .ref z12) (C := RX13) (T := TX13) (N := 20) hx hb hg inG13 hown hK hP 0 rfl rfl 12 (by decide) (hg _ wd_763) (fun _ h9 => h9) rfl dX13_bear_213 ?_
                        refine lv_aload_n hx hb dX13_bear_216 rfl (lv_at hl 4 rfl) ?_
                        refine va_get (D := D) (ci := 13) (v := .int (nI zgw36)) (C := RX13) (T := TX13) (N := 20) hx hb hg inG13 hown hK hP 0 rfl rfl 16 (by decide) (hg _ wd_769) (fun _ h9 => h9) rfl dX13_bear_217 ?_
                        refine lv_aload hx hb dX13_bear_220 (lv_at hl 3 rfl) ?_
                        refine lv_iload hx hb dX13_bear_222 (lv_at hl 1 rfl) ?_
                        refine lv_if_eq (tgt := 236) hx hb dX13_bear_224 (by decide) (fun c_127 => absurd c_127 (by decide)) (fun _ => ?_)
                        refine lv_aload hx hb dX13_bear_227 (lv_at hl 3 rfl) ?_
                        refine lv_iload_n hx hb dX13_bear_229 rfl (lv_at hl 6 rfl) ?_
                        have hPc : va_P D vwCl ([] ++ va_pl L M_120) H_119 := hP.part (cx := []) [] rfl
                        have hDc : va_D A ([] ++ va_pl L M_120) := hD.part (cx := []) [] (by decide) rfl
                        have hFc : ∀ q, va_A ([] ++ va_pl L M_120) H_119.size q → A q := pg_free hDc hS hA
                        refine va_calli (va_runV (As := [.int k2]) (rest := [.ref b11, .int (nI zgw36), .ref z12]) ⟨hx, hb, hml, hown, hg⟩ (r_ruleOnP l D cy K L M_120 H_119.size b11 k2  hW hb_13 (RLD.of hW (RLI.fr hW0 hRL hF (by decide) (by decide)) hb_13 hM_122 hv15 (by omega) hc15 hv24 (Int32.not_lt.mp c_25))) (cwV 1 hg (gV wd_815 wd_816 wd_817 wd_737 wd_818) rfl rfl rfl (by decide +kernel) ⟨(Nat.le_trans (Nat.le_of_ble_eq_true rfl) hRf), (Nat.le_trans (Nat.le_of_ble_eq_true rfl) hRl)⟩) ⟨PG.blind, pg_recv hK hP hb_13.1 hM_122 rfl, fun U hU hW => ⟨rfl, PG.at hPc hK hDc hN hU hW⟩⟩ rfl rfl hl.1 rfl (lv_room (Nat.le_of_ble_eq_true rfl)) dX13_bear_230 ⟨(Nat.le_trans (Nat.le_of_ble_eq_true rfl) hRc), (Nat.le_trans (Nat.le_of_ble_eq_true rfl) hRs)⟩) hS (fun q _ h => hFc q h) hFc (fun r_129 M_130 t H_128 locs ht hvm hw hB hz1 hk1 hS => ?_)
                        have hp_131 := hw
                        obtain ⟨hP1, hD1⟩ := hB
                        rw [ht] at hP1
                        obtain ⟨hP, hD⟩ := va_joinP (X := [(za, .inr (13, [.int 0, .ref z1, .int (nI z2), .int (nI z3), .int z4, .int z5, .ref z6, .ref z7, .ref z8, .ref z9, .int (nI z10), .ref z11, .ref z12, .ref z13, .ref z14, .ref z15, .int (nI zgw36), .ref z17, .int z18, .ref z19]))]) (cx := []) (wr := [(za, .inr (13, [.int 0, .ref z1, .int (nI z2), .int (nI z3), .int z4, .int z5, .ref z6, .ref z7, .ref z8, .ref z9, .int (nI z10), .ref z11, .ref z12, .ref z13, .ref z14, .ref z15, .int (nI zgw36), .ref z17, .int z18, .ref z19]))]) (rx := []) (pl := va_pl L M_120) (pl1 := va_pl L M_120) hP hD [] [0] rfl rfl (by decide) (by decide) hk1 hFc hP1 hD1
                        have hP : va_P D vwCl ([(za, .inr (13, [.int 0, .ref z1, .int (nI z2), .int (nI z3), .int z4, .int z5, .ref z6, .ref z7, .ref z8, .ref z9, .int (nI z10), .ref z11, .ref z12, .ref z13, .ref z14, .ref z15, .int (nI zgw36), .ref z17, .int z18, .ref z19]))] ++ va_pl L M_120) H_128 := hP
                        have hD : va_D A ([(za, .inr (13, [.int 0, .ref z1, .int (nI z2), .int (nI z3), .int z4, .int z5, .ref z6, .ref z7, .ref z8, .ref z9, .int (nI z10), .ref z11, .ref z12, .ref z13, .ref z14, .ref z15, .int (nI zgw36), .ref z17, .int z18, .ref z19]))] ++ va_pl L M_120) := hD
                        obtain ⟨j_132, rfl, c_133⟩ := hp_131
                        refine lv_goto (tgt := 243) hx hb dX13_bear_233 (by decide) ?_
                        refine lv_iconst (v := 3) hx hb dX13_bear_243 (by decide) ?_
                        refine lv_aload hx hb dX13_bear_244 (lv_at hl 3 rfl) ?_
                        obtain ⟨v134, hv134, hc134⟩ : ∃ v : Nat, fs14[20]? = some (.ref v : Value) ∧ isk K L v 31 24 := hl14 20 (by decide)
                        refine pg_getN (D := D) (ci := 12) (v := .ref v134) (C := RX12) (T := TX12) (N := 51) hx hb hg inG12 hown hK hP hb_13.1 hM_122 rfl 20 (by decide) (hN.use (Cond.fieldLinkNest RX13 110 RX12 "where" "[I" RX13) 29 rfl rfl) (fun _ h9 => h9) hv134 dX13_bear_246 ?_
                        refine lv_iload hx hb dX13_bear_249 (lv_at hl 2 rfl) ?_
                        obtain ⟨f135, hM135, hf135⟩ := hW.open_31 hc134
                        have hi_136 : vp_in (nI v5w36) 24 := (inbN v5w36 24 (by omega) (by omega))
                        refine pg_iald hx hb hK hP hc134.1 0 hM135 rfl hi_136 dX13_bear_251 ?_
                        have hp_137 := hf135 _ (vp_lt hi_136)
                        obtain ⟨c_138, hc_139, ec_140⟩ := hp_137
                        rw [ec_140]
                        have hPc : va_P D vwCl ([] ++ va_pl L M_120) H_128 := hP.part (cx := []) [] rfl
                        have hDc : va_D A ([] ++ va_pl L M_120) := hD.part (cx := []) [] (by decide) rfl
                        have hFc : ∀ q, va_A ([] ++ va_pl L M_120) H_128.size q → A q := pg_free hDc hS hA
                        refine va_calli (va_runV (As := [.int (nI j_132), .int 3, .int (nI c_138)]) (rest := [.int (nI zgw36), .ref z12]) ⟨hx, hb, hml, hown, hg⟩ (r_X12_term l D cy K L M_120 H_128.size b11 j_132 3 c_138  hW hb_13 c_133 (by omega) hc_139) (cwV 3 hg (gV wd_770 wd_771 wd_772 wd_737 wd_773) rfl rfl rfl (by decide +kernel) ⟨(Nat.le_trans (Nat.le_of_ble_eq_true rfl) hRf), (Nat.le_trans (Nat.le_of_ble_eq_true rfl) hRl)⟩) ⟨PG.blind, pg_recv hK hP hb_13.1 hM_122 rfl, fun U hU hW => ⟨rfl, PG.at hPc hK hDc hN hU hW⟩⟩ rfl rfl hl.1 rfl (lv_room (Nat.le_of_ble_eq_true rfl)) dX13_bear_252 ⟨(Nat.le_trans (Nat.le_of_ble_eq_true rfl) hRc), (Nat.le_trans (Nat.le_of_ble_eq_true rfl) hRs)⟩) hS (fun q _ h => hFc q h) hFc (fun r_142 M_143 t H_141 locs ht hvm hw hB hz1 hk1 hS => ?_)
                        have hp_144 := hw
                        obtain ⟨hP1, hD1⟩ := hB
                        rw [ht] at hP1
                        obtain ⟨hP, hD⟩ := va_joinP (X := [(za, .inr (13, [.int 0, .ref z1, .int (nI z2), .int (nI z3), .int z4, .int z5, .ref z6, .ref z7, .ref z8, .ref z9, .int (nI z10), .ref z11, .ref z12, .ref z13, .ref z14, .ref z15, .int (nI zgw36), .ref z17, .int z18, .ref z19]))]) (cx := []) (wr := [(za, .inr (13, [.int 0, .ref z1, .int (nI z2), .int (nI z3), .int z4, .int z5, .ref z6, .ref z7, .ref z8, .ref z9, .int (nI z10), .ref z11, .ref z12, .ref z13, .ref z14, .ref z15, .int (nI zgw36), .ref z17, .int z18, .ref z19]))]) (rx := []) (pl := va_pl L M_120) (pl1 := va_pl L M_120) hP hD [] [0] rfl rfl (by decide) (by decide) hk1 hFc hP1 hD1
                        have hP : va_P D vwCl ([(za, .inr (13, [.int 0, .ref z1, .int (nI z2), .int (nI z3), .int z4, .int z5, .ref z6, .ref z7, .ref z8, .ref z9, .int (nI z10), .ref z11, .ref z12, .ref z13, .ref z14, .ref z15, .int (nI zgw36), .ref z17, .int z18, .ref z19]))] ++ va_pl L M_120) H_141 := hP
                        have hD : va_D A ([(za, .inr (13, [.int 0, .ref z1, .int (nI z2), .int (nI z3), .int z4, .int z5, .ref z6, .ref z7, .ref z8, .ref z9, .int (nI z10), .ref z11, .ref z12, .ref z13, .ref z14, .ref z15, .int (nI zgw36), .ref z17, .int z18, .ref z19]))] ++ va_pl L M_120) := hD
                        obtain ⟨f145, hM145⟩ := hW.open_14 i12
                        refine pg_iast hx hb hK hP hD hS i12.1 0 hM145 rfl (inbN zgw36 24 (by omega) (by omega)) dX13_bear_255 (fun H_146 locs hP hD hS => ?_)
                        obtain ⟨M_147, eM_147⟩ : ∃ M1 : Hp, M1 = va_up M_120 z12 (.inl (cy 14, 24, .inl (upd f145 ((nI zgw36) : Int32).toNatClampNeg r_142))) := ⟨_, rfl⟩
                        have hP : va_P D vwCl ([(za, .inr (13, [.int 0, .ref z1, .int (nI z2), .int (nI z3), .int z4, .int z5, .ref z6, .ref z7, .ref z8, .ref z9, .int (nI z10), .ref z11, .ref z12, .ref z13, .ref z14, .ref z15, .int (nI zgw36), .ref z17, .int z18, .ref z19]))] ++ va_pl L M_147) H_146 := by rw [eM_147]; exact hP
                        have hD : va_D A ([(za, .inr (13, [.int 0, .ref z1, .int (nI z2), .int (nI z3), .int z4, .int z5, .ref z6, .ref z7, .ref z8, .ref z9, .int (nI z10), .ref z11, .ref z12, .ref z13, .ref z14, .ref z15, .int (nI zgw36), .ref z17, .int z18, .ref z19]))] ++ va_pl L M_147) := by rw [eM_147]; exact hD
                        have hW : WOM cy K L M_147 := by rw [eM_147]; exact hW.up_14 i12 ⟨_, rfl⟩
                        have hF : fr K L [14, 15, 32] M M_147 := by rw [eM_147]; exact hF.up i12 (by decide)
                        have hM_148 : M_147 z12 = .inl (cy 14, 24, .inl (upd f145 ((nI zgw36) : Int32).toNatClampNeg r_142)) := by rw [eM_147]; exact va_up_self _ _ _
                        have hM_149 : M_147 z11 = .inl (cy 14, 24, .inl (f_125)) := by rw [eM_147, va_up_ne _ _ (i11.neT i12 (by decide))]; exact hM_121
                        have hM_150 : M_147 b11 = .inr (12, fs14) := by rw [eM_147, va_up_ne _ _ (hb_13.neT i12 (by decide))]; exact hM_122
                        have hM_151 : M_147 v109 = .inl (cy 14, 24, .inl (f110)) := by rw [eM_147, va_up_ne _ _ (hc109.neT i12 (by decide))]; exact hM_123
                        have hM_152 : M_147 v134 = .inl (cy 14, 24, .inl (f135)) := by rw [eM_147, va_up_ne _ _ (hc134.neT i12 (by decide))]; exact hM135
                        obtain ⟨f_153, ef_153⟩ : ∃ f : Nat → Int32, f = upd f145 ((nI zgw36) : Int32).toNatClampNeg r_142 := ⟨_, rfl⟩
                        rw [← ef_153] at hM_148
                        clear ef_153
                        refine lv_aload_n hx hb dX13_bear_256 rfl (lv_at hl 4 rfl) ?_
                        refine va_get (D := D) (ci := 13) (v := .ref z13) (C := RX13) (T := TX13) (N := 20) hx hb hg inG13 hown hK hP 0 rfl rfl 13 (by decide) (hg _ wd_789) (fun _ h9 => h9) rfl dX13_bear_257 ?_
                        refine lv_aload_n hx hb dX13_bear_260 rfl (lv_at hl 4 rfl) ?_
                        refine va_get (D := D) (ci := 13) (v := .int (nI zgw36)) (C := RX13) (T := TX13) (N := 20) hx hb hg inG13 hown hK hP 0 rfl rfl 16 (by decide) (hg _ wd_769) (fun _ h9 => h9) rfl dX13_bear_261 ?_
                        refine lv_lconst (v := 0) hx hb dX13_bear_264 (by decide) ?_
                        obtain ⟨f154, hM154⟩ := hW.open_15 i13
                        refine pg_last hx hb hK hP hD hS i13.1 1 hM154 rfl (inbN zgw36 24 (by omega) (by omega)) dX13_bear_265 (fun H_155 locs hP hD hS => ?_)
                        obtain ⟨M_156, eM_156⟩ : ∃ M1 : Hp, M1 = va_up M_147 z13 (.inl (cy 15, 24, .inr (.inl (vp_updL f154 ((nI zgw36) : Int32).toNatClampNeg 0)))) := ⟨_, rfl⟩
                        have hP : va_P D vwCl ([(za, .inr (13, [.int 0, .ref z1, .int (nI z2), .int (nI z3), .int z4, .int z5, .ref z6, .ref z7, .ref z8, .ref z9, .int (nI z10), .ref z11, .ref z12, .ref z13, .ref z14, .ref z15, .int (nI zgw36), .ref z17, .int z18, .ref z19]))] ++ va_pl L M_156) H_155 := by rw [eM_156]; exact hP
                        have hD : va_D A ([(za, .inr (13, [.int 0, .ref z1, .int (nI z2), .int (nI z3), .int z4, .int z5, .ref z6, .ref z7, .ref z8, .ref z9, .int (nI z10), .ref z11, .ref z12, .ref z13, .ref z14, .ref z15, .int (nI zgw36), .ref z17, .int z18, .ref z19]))] ++ va_pl L M_156) := by rw [eM_156]; exact hD
                        have hW : WOM cy K L M_156 := by rw [eM_156]; exact hW.up_15 i13 ⟨_, rfl⟩
                        have hF : fr K L [14, 15, 32] M M_156 := by rw [eM_156]; exact hF.up i13 (by decide)
                        have hM_157 : M_156 z13 = .inl (cy 15, 24, .inr (.inl (vp_updL f154 ((nI zgw36) : Int32).toNatClampNeg 0))) := by rw [eM_156]; exact va_up_self _ _ _
                        have hM_158 : M_156 z12 = .inl (cy 14, 24, .inl (f_153)) := by rw [eM_156, va_up_ne _ _ (i12.neT i13 (by decide))]; exact hM_148
                        have hM_159 : M_156 z11 = .inl (cy 14, 24, .inl (f_125)) := by rw [eM_156, va_up_ne _ _ (i11.neT i13 (by decide))]; exact hM_149
                        have hM_160 : M_156 b11 = .inr (12, fs14) := by rw [eM_156, va_up_ne _ _ (hb_13.neT i13 (by decide))]; exact hM_150
                        have hM_161 : M_156 v109 = .inl (cy 14, 24, .inl (f110)) := by rw [eM_156, va_up_ne _ _ (hc109.neT i13 (by decide))]; exact hM_151
                        have hM_162 : M_156 v134 = .inl (cy 14, 24, .inl (f135)) := by rw [eM_156, va_up_ne _ _ (hc134.neT i13 (by decide))]; exact hM_152
                        obtain ⟨f_163, ef_163⟩ : ∃ f : Nat → Int64, f = vp_updL f154 ((nI zgw36) : Int32).toNatClampNeg 0 := ⟨_, rfl⟩
                        rw [← ef_163] at hM_157
                        clear ef_163
                        refine lv_aload_n hx hb dX13_bear_266 rfl (lv_at hl 4 rfl) ?_
                        refine lv_dup hx hb dX13_bear_267 rfl ?_
                        refine va_get (D := D) (ci := 13) (v := .int (nI zgw36)) (C := RX13) (T := TX13) (N := 20) hx hb hg inG13 hown hK hP 0 rfl rfl 16 (by decide) (hg _ wd_769) (fun _ h9 => h9) rfl dX13_bear_268 ?_
                        refine lv_iconst (v := 1) hx hb dX13_bear_271 (by decide) ?_
                        refine lv_iadd hx hb dX13_bear_272 ?_
                        refine lv_topi (fun f_164 ef_164 => ?_)
                        obtain rfl : f_164 = (nI (zgw36 + 1)) := ef_164.trans (nI_add zgw36 1)
                        refine va_put (D := D) (ci := 13) (v := .int (nI (zgw36 + 1))) (ty := .int) (C := RX13) (T := TX13) (N := 20) hx hb hg inG13 tyX13 tyX13_ok nmX13 hown hK hP hD hS 0 rfl rfl 16 (by decide) (hg _ wd_769) (fun _ h9 => h9) rfl (by decide +kernel) rfl rfl (Nat.le_of_ble_eq_true rfl) dX13_bear_273 (fun H_165 locs hP hD hS => ?_)
                        have hP : va_P D vwCl ([(za, .inr (13, [.int 0, .ref z1, .int (nI z2), .int (nI z3), .int z4, .int z5, .ref z6, .ref z7, .ref z8, .ref z9, .int (nI z10), .ref z11, .ref z12, .ref z13, .ref z14, .ref z15, .int (nI (zgw36 + 1)), .ref z17, .int z18, .ref z19]))] ++ va_pl L M_156) H_165 := hP
                        have hD : va_D A ([(za, .inr (13, [.int 0, .ref z1, .int (nI z2), .int (nI z3), .int z4, .int z5, .ref z6, .ref z7, .ref z8, .ref z9, .int (nI z10), .ref z11, .ref z12, .ref z13, .ref z14, .ref z15, .int (nI (zgw36 + 1)), .ref z17, .int z18, .ref z19]))] ++ va_pl L M_156) := hD
                        refine lv_iinc (v := (nI (v5w36 + 1))) (lv' := [(5, .int (nI (v5w36 + 1))), (7, .int 0), (6, .int 1), (4, .ref b11), (0, .ref za), (1, .int k1), (2, .int k2), (3, .int k3)]) hx hb dX13_bear_276 hl (k := 2) rfl (nI_1 v5w36) (by decide) rfl (fun ls hl => ?_)
                        refine lv_goto (tgt := 82) hx hb dX13_bear_279 (by decide) ?_
                        exact ih_34 (v5w36 + 1) (zgw36 + 1) M_156 H_165 _ _ (by omega) hM_160 (by omega) (by omega) hW hF hP hD hS (lv_sub hl [0, 3, 4, 5, 6, 7] rfl)
                      · have hz := rfl (a := 0)
                        refine lv_aload hx hb dX13_bear_158 (lv_at hl 2 rfl) ?_
                        obtain ⟨v166, hv166, hc166⟩ : ∃ v : Nat, fs14[26]? = some (.ref v : Value) ∧ isk K L v 16 24 := hl14 26 (by decide)
                        refine pg_getN (D := D) (ci := 12) (v := .ref v166) (C := RX12) (T := TX12) (N := 51) hx hb hg inG12 hown hK hP hb_13.1 hM_41 rfl 26 (by decide) (hN.use (Cond.fieldLinkNest RX13 124 RX12 "word" "[Z" RX13) 35 rfl rfl) (fun _ h9 => h9) hv166 dX13_bear_160 ?_
                        refine lv_iload hx hb dX13_bear_163 (lv_at hl 1 rfl) ?_
                        obtain ⟨f167, hM167, hf167⟩ := hW.open_16 hc166
                        have hi_168 : vp_in (nI v5w36) 24 := (inbN v5w36 24 (by omega) (by omega))
                        refine pg_zald hx hb hK hP hc166.1 2 hM167 rfl hi_168 dX13_bear_165 ?_
                        rcases hf167 _ (vp_lt hi_168) with ec_169 | ec_169
                        · rw [ec_169]
                          refine lv_if_eq (tgt := 185) hx hb dX13_bear_166 (by decide) (fun _ => ?_) (fun c_170 => absurd c_170 (by decide))
                          refine lv_iconst (v := 0) hx hb dX13_bear_185 (by decide) ?_
                          refine lv_istore (lv' := [(7, .int 0), (6, .int 1), (5, .int (nI v5w36)), (4, .ref b11), (0, .ref za), (1, .int k1), (2, .int k2), (3, .int k3)]) hx hb dX13_bear_186 hl (by decide) rfl (fun ls hl => ?_)
                          refine lv_iload hx hb dX13_bear_188 (lv_at hl 1 rfl) ?_
                          refine lv_if_ne (tgt := 201) hx hb dX13_bear_190 (by decide) (fun _ => ?_) (fun c_171 => absurd c_171 (by decide))
                          refine lv_aload_n hx hb dX13_bear_201 rfl (lv_at hl 4 rfl) ?_
                          refine va_get (D := D) (ci := 13) (v := .ref z11) (C := RX13) (T := TX13) (N := 20) hx hb hg inG13 hown hK hP 0 rfl rfl 11 (by decide) (hg _ wd_764) (fun _ h9 => h9) rfl dX13_bear_202 ?_
                          refine lv_aload_n hx hb dX13_bear_205 rfl (lv_at hl 4 rfl) ?_
                          refine va_get (D := D) (ci := 13) (v := .int (nI zgw36)) (C := RX13) (T := TX13) (N := 20) hx hb hg inG13 hown hK hP 0 rfl rfl 16 (by decide) (hg _ wd_769) (fun _ h9 => h9) rfl dX13_bear_206 ?_
                          refine lv_iload hx hb dX13_bear_209 (lv_at hl 2 rfl) ?_
                          obtain ⟨f172, hM172, hf172⟩ := hW.open_32 i11
                          refine pg_iast hx hb hK hP hD hS i11.1 0 hM172 rfl (inbN zgw36 24 (by omega) (by omega)) dX13_bear_211 (fun H_173 locs hP hD hS => ?_)
                          obtain ⟨M_174, eM_174⟩ : ∃ M1 : Hp, M1 = va_up M_39 z11 (.inl (cy 14, 24, .inl (upd f172 ((nI zgw36) : Int32).toNatClampNeg (nI v5w36)))) := ⟨_, rfl⟩
                          have hP : va_P D vwCl ([(za, .inr (13, [.int 0, .ref z1, .int (nI z2), .int (nI z3), .int z4, .int z5, .ref z6, .ref z7, .ref z8, .ref z9, .int (nI z10), .ref z11, .ref z12, .ref z13, .ref z14, .ref z15, .int (nI zgw36), .ref z17, .int z18, .ref z19]))] ++ va_pl L M_174) H_173 := by rw [eM_174]; exact hP
                          have hD : va_D A ([(za, .inr (13, [.int 0, .ref z1, .int (nI z2), .int (nI z3), .int z4, .int z5, .ref z6, .ref z7, .ref z8, .ref z9, .int (nI z10), .ref z11, .ref z12, .ref z13, .ref z14, .ref z15, .int (nI zgw36), .ref z17, .int z18, .ref z19]))] ++ va_pl L M_174) := by rw [eM_174]; exact hD
                          have hW : WOM cy K L M_174 := by rw [eM_174]; exact hW.up_32 i11 ⟨_, rfl, (updP (P := fun z => ∃ c : Nat, c < 24 ∧ z = nI c) hf172 ⟨v5w36, by omega, rfl⟩)⟩
                          have hF : fr K L [14, 15, 32] M M_174 := by rw [eM_174]; exact hF.up i11 (by decide)
                          have hM_175 : M_174 z11 = .inl (cy 14, 24, .inl (upd f172 ((nI zgw36) : Int32).toNatClampNeg (nI v5w36))) := by rw [eM_174]; exact va_up_self _ _ _
                          have hM_176 : M_174 b11 = .inr (12, fs14) := by rw [eM_174, va_up_ne _ _ (hb_13.neT i11 (by decide))]; exact hM_41
                          have hM_177 : M_174 v109 = .inl (cy 14, 24, .inl (f110)) := by rw [eM_174, va_up_ne _ _ (hc109.neT i11 (by decide))]; exact hM110
                          have hM_178 : M_174 v113 = .inl (cy 14, 24, .inl (f114)) := by rw [eM_174, va_up_ne _ _ (hc113.neT i11 (by decide))]; exact hM114
                          have hM_179 : M_174 v166 = .inl (cy 16, 24, .inl (f167)) := by rw [eM_174, va_up_ne _ _ (hc166.neT i11 (by decide))]; exact hM167
                          have hf_181 : ∀ j, j < 24 → ∃ c : Nat, c < 24 ∧ (upd f172 ((nI zgw36) : Int32).toNatClampNeg (nI v5w36)) j = nI c := (updP (P := fun z => ∃ c : Nat, c < 24 ∧ z = nI c) hf172 ⟨v5w36, by omega, rfl⟩)
                          obtain ⟨f_180, ef_180⟩ : ∃ f : Nat → Int32, f = upd f172 ((nI zgw36) : Int32).toNatClampNeg (nI v5w36) := ⟨_, rfl⟩
                          rw [← ef_180] at hM_175 hf_181
                          clear ef_180
                          refine lv_aload_n hx hb dX13_bear_212 rfl (lv_at hl 4 rfl) ?_
                          refine va_get (D := D) (ci := 13) (v := .ref z12) (C := RX13) (T := TX13) (N := 20) hx hb hg inG13 hown hK hP 0 rfl rfl 12 (by decide) (hg _ wd_763) (fun _ h9 => h9) rfl dX13_bear_213 ?_
                          refine lv_aload_n hx hb dX13_bear_216 rfl (lv_at hl 4 rfl) ?_
                          refine va_get (D := D) (ci := 13) (v := .int (nI zgw36)) (C := RX13) (T := TX13) (N := 20) hx hb hg inG13 hown hK hP 0 rfl rfl 16 (by decide) (hg _ wd_769) (fun _ h9 => h9) rfl dX13_bear_217 ?_
                          refine lv_aload hx hb dX13_bear_220 (lv_at hl 3 rfl) ?_
                          refine lv_iload hx hb dX13_bear_222 (lv_at hl 1 rfl) ?_
                          refine lv_if_eq (tgt := 236) hx hb dX13_bear_224 (by decide) (fun c_182 => absurd c_182 (by decide)) (fun _ => ?_)
                          refine lv_aload hx hb dX13_bear_227 (lv_at hl 3 rfl) ?_
                          refine lv_iload_n hx hb dX13_bear_229 rfl (lv_at hl 6 rfl) ?_
                          have hPc : va_P D vwCl ([] ++ va_pl L M_174) H_173 := hP.part (cx := []) [] rfl
                          have hDc : va_D A ([] ++ va_pl L M_174) := hD.part (cx := []) [] (by decide) rfl
                          have hFc : ∀ q, va_A ([] ++ va_pl L M_174) H_173.size q → A q := pg_free hDc hS hA
                          refine va_calli (va_runV (As := [.int k2]) (rest := [.ref b11, .int (nI zgw36), .ref z12]) ⟨hx, hb, hml, hown, hg⟩ (r_ruleOnP l D cy K L M_174 H_173.size b11 k2  hW hb_13 (RLD.of hW (RLI.fr hW0 hRL hF (by decide) (by decide)) hb_13 hM_176 hv15 (by omega) hc15 hv24 (Int32.not_lt.mp c_25))) (cwV 1 hg (gV wd_815 wd_816 wd_817 wd_737 wd_818) rfl rfl rfl (by decide +kernel) ⟨(Nat.le_trans (Nat.le_of_ble_eq_true rfl) hRf), (Nat.le_trans (Nat.le_of_ble_eq_true rfl) hRl)⟩) ⟨PG.blind, pg_recv hK hP hb_13.1 hM_176 rfl, fun U hU hW => ⟨rfl, PG.at hPc hK hDc hN hU hW⟩⟩ rfl rfl hl.1 rfl (lv_room (Nat.le_of_ble_eq_true rfl)) dX13_bear_230 ⟨(Nat.le_trans (Nat.le_of_ble_eq_true rfl) hRc), (Nat.le_trans (Nat.le_of_ble_eq_true rfl) hRs)⟩) hS (fun q _ h => hFc q h) hFc (fun r_184 M_185 t H_183 locs ht hvm hw hB hz1 hk1 hS => ?_)
                          have hp_186 := hw
                          obtain ⟨hP1, hD1⟩ := hB
                          rw [ht] at hP1
                          obtain ⟨hP, hD⟩ := va_joinP (X := [(za, .inr (13, [.int 0, .ref z1, .int (nI z2), .int (nI z3), .int z4, .int z5, .ref z6, .ref z7, .ref z8, .ref z9, .int (nI z10), .ref z11, .ref z12, .ref z13, .ref z14, .ref z15, .int (nI zgw36), .ref z17, .int z18, .ref z19]))]) (cx := []) (wr := [(za, .inr (13, [.int 0, .ref z1, .int (nI z2), .int (nI z3), .int z4, .int z5, .ref z6, .ref z7, .ref z8, .ref z9, .int (nI z10), .ref z11, .ref z12, .ref z13, .ref z14, .ref z15, .int (nI zgw36), .ref z17, .int z18, .ref z19]))]) (rx := []) (pl := va_pl L M_174) (pl1 := va_pl L M_174) hP hD [] [0] rfl rfl (by decide) (by decide) hk1 hFc hP1 hD1
                          have hP : va_P D vwCl ([(za, .inr (13, [.int 0, .ref z1, .int (nI z2), .int (nI z3), .int z4, .int z5, .ref z6, .ref z7, .ref z8, .ref z9, .int (nI z10), .ref z11, .ref z12, .ref z13, .ref z14, .ref z15, .int (nI zgw36), .ref z17, .int z18, .ref z19]))] ++ va_pl L M_174) H_183 := hP
                          have hD : va_D A ([(za, .inr (13, [.int 0, .ref z1, .int (nI z2), .int (nI z3), .int z4, .int z5, .ref z6, .ref z7, .ref z8, .ref z9, .int (nI z10), .ref z11, .ref z12, .ref z13, .ref z14, .ref z15, .int (nI zgw36), .ref z17, .int z18, .ref z19]))] ++ va_pl L M_174) := hD
                          obtain ⟨j_187, rfl, c_188⟩ := hp_186
                          refine lv_goto (tgt := 243) hx hb dX13_bear_233 (by decide) ?_
                          refine lv_iconst (v := 3) hx hb dX13_bear_243 (by decide) ?_
                          refine lv_aload hx hb dX13_bear_244 (lv_at hl 3 rfl) ?_
                          obtain ⟨v189, hv189, hc189⟩ : ∃ v : Nat, fs14[20]? = some (.ref v : Value) ∧ isk K L v 31 24 := hl14 20 (by decide)
                          refine pg_getN (D := D) (ci := 12) (v := .ref v189) (C := RX12) (T := TX12) (N := 51) hx hb hg inG12 hown hK hP hb_13.1 hM_176 rfl 20 (by decide) (hN.use (Cond.fieldLinkNest RX13 110 RX12 "where" "[I" RX13) 29 rfl rfl) (fun _ h9 => h9) hv189 dX13_bear_246 ?_
                          refine lv_iload hx hb dX13_bear_249 (lv_at hl 2 rfl) ?_
                          obtain ⟨f190, hM190, hf190⟩ := hW.open_31 hc189
                          have hi_191 : vp_in (nI v5w36) 24 := (inbN v5w36 24 (by omega) (by omega))
                          refine pg_iald hx hb hK hP hc189.1 0 hM190 rfl hi_191 dX13_bear_251 ?_
                          have hp_192 := hf190 _ (vp_lt hi_191)
                          obtain ⟨c_193, hc_194, ec_195⟩ := hp_192
                          rw [ec_195]
                          have hPc : va_P D vwCl ([] ++ va_pl L M_174) H_183 := hP.part (cx := []) [] rfl
                          have hDc : va_D A ([] ++ va_pl L M_174) := hD.part (cx := []) [] (by decide) rfl
                          have hFc : ∀ q, va_A ([] ++ va_pl L M_174) H_183.size q → A q := pg_free hDc hS hA
                          refine va_calli (va_runV (As := [.int (nI j_187), .int 3, .int (nI c_193)]) (rest := [.int (nI zgw36), .ref z12]) ⟨hx, hb, hml, hown, hg⟩ (r_X12_term l D cy K L M_174 H_183.size b11 j_187 3 c_193  hW hb_13 c_188 (by omega) hc_194) (cwV 3 hg (gV wd_770 wd_771 wd_772 wd_737 wd_773) rfl rfl rfl (by decide +kernel) ⟨(Nat.le_trans (Nat.le_of_ble_eq_true rfl) hRf), (Nat.le_trans (Nat.le_of_ble_eq_true rfl) hRl)⟩) ⟨PG.blind, pg_recv hK hP hb_13.1 hM_176 rfl, fun U hU hW => ⟨rfl, PG.at hPc hK hDc hN hU hW⟩⟩ rfl rfl hl.1 rfl (lv_room (Nat.le_of_ble_eq_true rfl)) dX13_bear_252 ⟨(Nat.le_trans (Nat.le_of_ble_eq_true rfl) hRc), (Nat.le_trans (Nat.le_of_ble_eq_true rfl) hRs)⟩) hS (fun q _ h => hFc q h) hFc (fun r_197 M_198 t H_196 locs ht hvm hw hB hz1 hk1 hS => ?_)
                          have hp_199 := hw
                          obtain ⟨hP1, hD1⟩ := hB
                          rw [ht] at hP1
                          obtain ⟨hP, hD⟩ := va_joinP (X := [(za, .inr (13, [.int 0, .ref z1, .int (nI z2), .int (nI z3), .int z4, .int z5, .ref z6, .ref z7, .ref z8, .ref z9, .int (nI z10), .ref z11, .ref z12, .ref z13, .ref z14, .ref z15, .int (nI zgw36), .ref z17, .int z18, .ref z19]))]) (cx := []) (wr := [(za, .inr (13, [.int 0, .ref z1, .int (nI z2), .int (nI z3), .int z4, .int z5, .ref z6, .ref z7, .ref z8, .ref z9, .int (nI z10), .ref z11, .ref z12, .ref z13, .ref z14, .ref z15, .int (nI zgw36), .ref z17, .int z18, .ref z19]))]) (rx := []) (pl := va_pl L M_174) (pl1 := va_pl L M_174) hP hD [] [0] rfl rfl (by decide) (by decide) hk1 hFc hP1 hD1
                          have hP : va_P D vwCl ([(za, .inr (13, [.int 0, .ref z1, .int (nI z2), .int (nI z3), .int z4, .int z5, .ref z6, .ref z7, .ref z8, .ref z9, .int (nI z10), .ref z11, .ref z12, .ref z13, .ref z14, .ref z15, .int (nI zgw36), .ref z17, .int z18, .ref z19]))] ++ va_pl L M_174) H_196 := hP
                          have hD : va_D A ([(za, .inr (13, [.int 0, .ref z1, .int (nI z2), .int (nI z3), .int z4, .int z5, .ref z6, .ref z7, .ref z8, .ref z9, .int (nI z10), .ref z11, .ref z12, .ref z13, .ref z14, .ref z15, .int (nI zgw36), .ref z17, .int z18, .ref z19]))] ++ va_pl L M_174) := hD
                          obtain ⟨f200, hM200⟩ := hW.open_14 i12
                          refine pg_iast hx hb hK hP hD hS i12.1 0 hM200 rfl (inbN zgw36 24 (by omega) (by omega)) dX13_bear_255 (fun H_201 locs hP hD hS => ?_)
                          obtain ⟨M_202, eM_202⟩ : ∃ M1 : Hp, M1 = va_up M_174 z12 (.inl (cy 14, 24, .inl (upd f200 ((nI zgw36) : Int32).toNatClampNeg r_197))) := ⟨_, rfl⟩
                          have hP : va_P D vwCl ([(za, .inr (13, [.int 0, .ref z1, .int (nI z2), .int (nI z3), .int z4, .int z5, .ref z6, .ref z7, .ref z8, .ref z9, .int (nI z10), .ref z11, .ref z12, .ref z13, .ref z14, .ref z15, .int (nI zgw36), .ref z17, .int z18, .ref z19]))] ++ va_pl L M_202) H_201 := by rw [eM_202]; exact hP
                          have hD : va_D A ([(za, .inr (13, [.int 0, .ref z1, .int (nI z2), .int (nI z3), .int z4, .int z5, .ref z6, .ref z7, .ref z8, .ref z9, .int (nI z10), .ref z11, .ref z12, .ref z13, .ref z14, .ref z15, .int (nI zgw36), .ref z17, .int z18, .ref z19]))] ++ va_pl L M_202) := by rw [eM_202]; exact hD
                          have hW : WOM cy K L M_202 := by rw [eM_202]; exact hW.up_14 i12 ⟨_, rfl⟩
                          have hF : fr K L [14, 15, 32] M M_202 := by rw [eM_202]; exact hF.up i12 (by decide)
                          have hM_203 : M_202 z12 = .inl (cy 14, 24, .inl (upd f200 ((nI zgw36) : Int32).toNatClampNeg r_197)) := by rw [eM_202]; exact va_up_self _ _ _
                          have hM_204 : M_202 z11 = .inl (cy 14, 24, .inl (f_180)) := by rw [eM_202, va_up_ne _ _ (i11.neT i12 (by decide))]; exact hM_175
                          have hM_205 : M_202 b11 = .inr (12, fs14) := by rw [eM_202, va_up_ne _ _ (hb_13.neT i12 (by decide))]; exact hM_176
                          have hM_206 : M_202 v109 = .inl (cy 14, 24, .inl (f110)) := by rw [eM_202, va_up_ne _ _ (hc109.neT i12 (by decide))]; exact hM_177
                          have hM_207 : M_202 v166 = .inl (cy 16, 24, .inl (f167)) := by rw [eM_202, va_up_ne _ _ (hc166.neT i12 (by decide))]; exact hM_179
                          have hM_208 : M_202 v189 = .inl (cy 14, 24, .inl (f190)) := by rw [eM_202, va_up_ne _ _ (hc189.neT i12 (by decide))]; exact hM190
                          obtain ⟨f_209, ef_209⟩ : ∃ f : Nat → Int32, f = upd f200 ((nI zgw36) : Int32).toNatClampNeg r_197 := ⟨_, rfl⟩
                          rw [← ef_209] at hM_203
                          clear ef_209
                          refine lv_aload_n hx hb dX13_bear_256 rfl (lv_at hl 4 rfl) ?_
                          refine va_get (D := D) (ci := 13) (v := .ref z13) (C := RX13) (T := TX13) (N := 20) hx hb hg inG13 hown hK hP 0 rfl rfl 13 (by decide) (hg _ wd_789) (fun _ h9 => h9) rfl dX13_bear_257 ?_
                          refine lv_aload_n hx hb dX13_bear_260 rfl (lv_at hl 4 rfl) ?_
                          refine va_get (D := D) (ci := 13) (v := .int (nI zgw36)) (C := RX13) (T := TX13) (N := 20) hx hb hg inG13 hown hK hP 0 rfl rfl 16 (by decide) (hg _ wd_769) (fun _ h9 => h9) rfl dX13_bear_261 ?_
                          refine lv_lconst (v := 0) hx hb dX13_bear_264 (by decide) ?_
                          obtain ⟨f210, hM210⟩ := hW.open_15 i13
                          refine pg_last hx hb hK hP hD hS i13.1 1 hM210 rfl (inbN zgw36 24 (by omega) (by omega)) dX13_bear_265 (fun H_211 locs hP hD hS => ?_)
                          obtain ⟨M_212, eM_212⟩ : ∃ M1 : Hp, M1 = va_up M_202 z13 (.inl (cy 15, 24, .inr (.inl (vp_updL f210 ((nI zgw36) : Int32).toNatClampNeg 0)))) := ⟨_, rfl⟩
                          have hP : va_P D vwCl ([(za, .inr (13, [.int 0, .ref z1, .int (nI z2), .int (nI z3), .int z4, .int z5, .ref z6, .ref z7, .ref z8, .ref z9, .int (nI z10), .ref z11, .ref z12, .ref z13, .ref z14, .ref z15, .int (nI zgw36), .ref z17, .int z18, .ref z19]))] ++ va_pl L M_212) H_211 := by rw [eM_212]; exact hP
                          have hD : va_D A ([(za, .inr (13, [.int 0, .ref z1, .int (nI z2), .int (nI z3), .int z4, .int z5, .ref z6, .ref z7, .ref z8, .ref z9, .int (nI z10), .ref z11, .ref z12, .ref z13, .ref z14, .ref z15, .int (nI zgw36), .ref z17, .int z18, .ref z19]))] ++ va_pl L M_212) := by rw [eM_212]; exact hD
                          have hW : WOM cy K L M_212 := by rw [eM_212]; exact hW.up_15 i13 ⟨_, rfl⟩
                          have hF : fr K L [14, 15, 32] M M_212 := by rw [eM_212]; exact hF.up i13 (by decide)
                          have hM_213 : M_212 z13 = .inl (cy 15, 24, .inr (.inl (vp_updL f210 ((nI zgw36) : Int32).toNatClampNeg 0))) := by rw [eM_212]; exact va_up_self _ _ _
                          have hM_214 : M_212 z12 = .inl (cy 14, 24, .inl (f_209)) := by rw [eM_212, va_up_ne _ _ (i12.neT i13 (by decide))]; exact hM_203
                          have hM_215 : M_212 z11 = .inl (cy 14, 24, .inl (f_180)) := by rw [eM_212, va_up_ne _ _ (i11.neT i13 (by decide))]; exact hM_204
                          have hM_216 : M_212 b11 = .inr (12, fs14) := by rw [eM_212, va_up_ne _ _ (hb_13.neT i13 (by decide))]; exact hM_205
                          have hM_217 : M_212 v109 = .inl (cy 14, 24, .inl (f110)) := by rw [eM_212, va_up_ne _ _ (hc109.neT i13 (by decide))]; exact hM_206
                          have hM_218 : M_212 v166 = .inl (cy 16, 24, .inl (f167)) := by rw [eM_212, va_up_ne _ _ (hc166.neT i13 (by decide))]; exact hM_207
                          have hM_219 : M_212 v189 = .inl (cy 14, 24, .inl (f190)) := by rw [eM_212, va_up_ne _ _ (hc189.neT i13 (by decide))]; exact hM_208
                          obtain ⟨f_220, ef_220⟩ : ∃ f : Nat → Int64, f = vp_updL f210 ((nI zgw36) : Int32).toNatClampNeg 0 := ⟨_, rfl⟩
                          rw [← ef_220] at hM_213
                          clear ef_220
                          refine lv_aload_n hx hb dX13_bear_266 rfl (lv_at hl 4 rfl) ?_
                          refine lv_dup hx hb dX13_bear_267 rfl ?_
                          refine va_get (D := D) (ci := 13) (v := .int (nI zgw36)) (C := RX13) (T := TX13) (N := 20) hx hb hg inG13 hown hK hP 0 rfl rfl 16 (by decide) (hg _ wd_769) (fun _ h9 => h9) rfl dX13_bear_268 ?_
                          refine lv_iconst (v := 1) hx hb dX13_bear_271 (by decide) ?_
                          refine lv_iadd hx hb dX13_bear_272 ?_
                          refine lv_topi (fun f_221 ef_221 => ?_)
                          obtain rfl : f_221 = (nI (zgw36 + 1)) := ef_221.trans (nI_add zgw36 1)
                          refine va_put (D := D) (ci := 13) (v := .int (nI (zgw36 + 1))) (ty := .int) (C := RX13) (T := TX13) (N := 20) hx hb hg inG13 tyX13 tyX13_ok nmX13 hown hK hP hD hS 0 rfl rfl 16 (by decide) (hg _ wd_769) (fun _ h9 => h9) rfl (by decide +kernel) rfl rfl (Nat.le_of_ble_eq_true rfl) dX13_bear_273 (fun H_222 locs hP hD hS => ?_)
                          have hP : va_P D vwCl ([(za, .inr (13, [.int 0, .ref z1, .int (nI z2), .int (nI z3), .int z4, .int z5, .ref z6, .ref z7, .ref z8, .ref z9, .int (nI z10), .ref z11, .ref z12, .ref z13, .ref z14, .ref z15, .int (nI (zgw36 + 1)), .ref z17, .int z18, .ref z19]))] ++ va_pl L M_212) H_222 := hP
                          have hD : va_D A ([(za, .inr (13, [.int 0, .ref z1, .int (nI z2), .int (nI z3), .int z4, .int z5, .ref z6, .ref z7, .ref z8, .ref z9, .int (nI z10), .ref z11, .ref z12, .ref z13, .ref z14, .ref z15, .int (nI (zgw36 + 1)), .ref z17, .int z18, .ref z19]))] ++ va_pl L M_212) := hD
                          refine lv_iinc (v := (nI (v5w36 + 1))) (lv' := [(5, .int (nI (v5w36 + 1))), (7, .int 0), (6, .int 1), (4, .ref b11), (0, .ref za), (1, .int k1), (2, .int k2), (3, .int k3)]) hx hb dX13_bear_276 hl (k := 2) rfl (nI_1 v5w36) (by decide) rfl (fun ls hl => ?_)
                          refine lv_goto (tgt := 82) hx hb dX13_bear_279 (by decide) ?_
                          exact ih_34 (v5w36 + 1) (zgw36 + 1) M_212 H_222 _ _ (by omega) hM_216 (by omega) (by omega) hW hF hP hD hS (lv_sub hl [0, 3, 4, 5, 6, 7] rfl)
                        · rw [ec_169]
                          refine lv_if_eq (tgt := 185) hx hb dX13_bear_166 (by decide) (fun c_223 => absurd c_223 (by decide)) (fun _ => ?_)
                          refine lv_aload hx hb dX13_bear_169 (lv_at hl 2 rfl) ?_
                          refine pg_getN (D := D) (ci := 12) (v := .ref v109) (C := RX12) (T := TX12) (N := 51) hx hb hg inG12 hown hK hP hb_13.1 hM_41 rfl 22 (by decide) (hN.use (Cond.fieldLinkNest RX13 95 RX12 "ended" "[I" RX13) 31 rfl rfl) (fun _ h9 => h9) hv109 dX13_bear_171 ?_
                          refine lv_iload hx hb dX13_bear_174 (lv_at hl 1 rfl) ?_
                          refine pg_iald hx hb hK hP hc109.1 0 hM110 rfl (inbN v5w36 24 (by omega) (by omega)) dX13_bear_176 ?_
                          refine lv_topi (fun f_224 ef_224 => ?_)
                          refine lv_iconst (v := (-1)) hx hb dX13_bear_177 (by decide) ?_
                          refine lv_icmp_ne (tgt := 185) hx hb dX13_bear_178 (by decide) (fun c_225 => ?_) (fun c_225 => ?_)
                          · have hz := rfl (a := 0)
                            refine lv_iconst (v := 0) hx hb dX13_bear_185 (by decide) ?_
                            refine lv_istore (lv' := [(7, .int 0), (6, .int 1), (5, .int (nI v5w36)), (4, .ref b11), (0, .ref za), (1, .int k1), (2, .int k2), (3, .int k3)]) hx hb dX13_bear_186 hl (by decide) rfl (fun ls hl => ?_)
                            refine lv_iload hx hb dX13_bear_188 (lv_at hl 1 rfl) ?_
                            refine lv_if_ne (tgt := 201) hx hb dX13_bear_190 (by decide) (fun _ => ?_) (fun c_226 => absurd c_226 (by decide))
                            refine lv_aload_n hx hb dX13_bear_201 rfl (lv_at hl 4 rfl) ?_
                            refine va_get (D := D) (ci := 13) (v := .ref z11) (C := RX13) (T := TX13) (N := 20) hx hb hg inG13 hown hK hP 0 rfl rfl 11 (by decide) (hg _ wd_764) (fun _ h9 => h9) rfl dX13_bear_202 ?_
                            refine lv_aload_n hx hb dX13_bear_205 rfl (lv_at hl 4 rfl) ?_
                            refine va_get (D := D) (ci := 13) (v := .int (nI zgw36)) (C := RX13) (T := TX13) (N := 20) hx hb hg inG13 hown hK hP 0 rfl rfl 16 (by decide) (hg _ wd_769) (fun _ h9 => h9) rfl dX13_bear_206 ?_
                            refine lv_iload hx hb dX13_bear_209 (lv_at hl 2 rfl) ?_
                            obtain ⟨f227, hM227, hf227⟩ := hW.open_32 i11
                            refine pg_iast hx hb hK hP hD hS i11.1 0 hM227 rfl (inbN zgw36 24 (by omega) (by omega)) dX13_bear_211 (fun H_228 locs hP hD hS => ?_)
                            obtain ⟨M_229, eM_229⟩ : ∃ M1 : Hp, M1 = va_up M_39 z11 (.inl (cy 14, 24, .inl (upd f227 ((nI zgw36) : Int32).toNatClampNeg (nI v5w36)))) := ⟨_, rfl⟩
                            have hP : va_P D vwCl ([(za, .inr (13, [.int 0, .ref z1, .int (nI z2), .int (nI z3), .int z4, .int z5, .ref z6, .ref z7, .ref z8, .ref z9, .int (nI z10), .ref z11, .ref z12, .ref z13, .ref z14, .ref z15, .int (nI zgw36), .ref z17, .int z18, .ref z19]))] ++ va_pl L M_229) H_228 := by rw [eM_229]; exact hP
                            have hD : va_D A ([(za, .inr (13, [.int 0, .ref z1, .int (nI z2), .int (nI z3), .int z4, .int z5, .ref z6, .ref z7, .ref z8, .ref z9, .int (nI z10), .ref z11, .ref z12, .ref z13, .ref z14, .ref z15, .int (nI zgw36), .ref z17, .int z18, .ref z19]))] ++ va_pl L M_229) := by rw [eM_229]; exact hD
                            have hW : WOM cy K L M_229 := by rw [eM_229]; exact hW.up_32 i11 ⟨_, rfl, (updP (P := fun z => ∃ c : Nat, c < 24 ∧ z = nI c) hf227 ⟨v5w36, by omega, rfl⟩)⟩
                            have hF : fr K L [14, 15, 32] M M_229 := by rw [eM_229]; exact hF.up i11 (by decide)
                            have hM_230 : M_229 z11 = .inl (cy 14, 24, .inl (upd f227 ((nI zgw36) : Int32).toNatClampNeg (nI v5w36))) := by rw [eM_229]; exact va_up_self _ _ _
                            have hM_231 : M_229 b11 = .inr (12, fs14) := by rw [eM_229, va_up_ne _ _ (hb_13.neT i11 (by decide))]; exact hM_41
                            have hM_232 : M_229 v109 = .inl (cy 14, 24, .inl (f110)) := by rw [eM_229, va_up_ne _ _ (hc109.neT i11 (by decide))]; exact hM110
                            have hM_233 : M_229 v113 = .inl (cy 14, 24, .inl (f114)) := by rw [eM_229, va_up_ne _ _ (hc113.neT i11 (by decide))]; exact hM114
                            have hM_234 : M_229 v166 = .inl (cy 16, 24, .inl (f167)) := by rw [eM_229, va_up_ne _ _ (hc166.neT i11 (by decide))]; exact hM167
                            have hf_236 : ∀ j, j < 24 → ∃ c : Nat, c < 24 ∧ (upd f227 ((nI zgw36) : Int32).toNatClampNeg (nI v5w36)) j = nI c := (updP (P := fun z => ∃ c : Nat, c < 24 ∧ z = nI c) hf227 ⟨v5w36, by omega, rfl⟩)
                            obtain ⟨f_235, ef_235⟩ : ∃ f : Nat → Int32, f = upd f227 ((nI zgw36) : Int32).toNatClampNeg (nI v5w36) := ⟨_, rfl⟩
                            rw [← ef_235] at hM_230 hf_236
                            clear ef_235
                            refine lv_aload_n hx hb dX13_bear_212 rfl (lv_at hl 4 rfl) ?_
                            refine va_get (D := D) (ci := 13) (v := .ref z12) (C := RX13) (T := TX13) (N := 20) hx hb hg inG13 hown hK hP 0 rfl rfl 12 (by decide) (hg _ wd_763) (fun _ h9 => h9) rfl dX13_bear_213 ?_
                            refine lv_aload_n hx hb dX13_bear_216 rfl (lv_at hl 4 rfl) ?_
                            refine va_get (D := D) (ci := 13) (v := .int (nI zgw36)) (C := RX13) (T := TX13) (N := 20) hx hb hg inG13 hown hK hP 0 rfl rfl 16 (by decide) (hg _ wd_769) (fun _ h9 => h9) rfl dX13_bear_217 ?_
                            refine lv_aload hx hb dX13_bear_220 (lv_at hl 3 rfl) ?_
                            refine lv_iload hx hb dX13_bear_222 (lv_at hl 1 rfl) ?_
                            refine lv_if_eq (tgt := 236) hx hb dX13_bear_224 (by decide) (fun c_237 => absurd c_237 (by decide)) (fun _ => ?_)
                            refine lv_aload hx hb dX13_bear_227 (lv_at hl 3 rfl) ?_
                            refine lv_iload_n hx hb dX13_bear_229 rfl (lv_at hl 6 rfl) ?_
                            have hPc : va_P D vwCl ([] ++ va_pl L M_229) H_228 := hP.part (cx := []) [] rfl
                            have hDc : va_D A ([] ++ va_pl L M_229) := hD.part (cx := []) [] (by decide) rfl
                            have hFc : ∀ q, va_A ([] ++ va_pl L M_229) H_228.size q → A q := pg_free hDc hS hA
                            refine va_calli (va_runV (As := [.int k2]) (rest := [.ref b11, .int (nI zgw36), .ref z12]) ⟨hx, hb, hml, hown, hg⟩ (r_ruleOnP l D cy K L M_229 H_228.size b11 k2  hW hb_13 (RLD.of hW (RLI.fr hW0 hRL hF (by decide) (by decide)) hb_13 hM_231 hv15 (by omega) hc15 hv24 (Int32.not_lt.mp c_25))) (cwV 1 hg (gV wd_815 wd_816 wd_817 wd_737 wd_818) rfl rfl rfl (by decide +kernel) ⟨(Nat.le_trans (Nat.le_of_ble_eq_true rfl) hRf), (Nat.le_trans (Nat.le_of_ble_eq_true rfl) hRl)⟩) ⟨PG.blind, pg_recv hK hP hb_13.1 hM_231 rfl, fun U hU hW => ⟨rfl, PG.at hPc hK hDc hN hU hW⟩⟩ rfl rfl hl.1 rfl (lv_room (Nat.le_of_ble_eq_true rfl)) dX13_bear_230 ⟨(Nat.le_trans (Nat.le_of_ble_eq_true rfl) hRc), (Nat.le_trans (Nat.le_of_ble_eq_true rfl) hRs)⟩) hS (fun q _ h => hFc q h) hFc (fun r_239 M_240 t H_238 locs ht hvm hw hB hz1 hk1 hS => ?_)
                            have hp_241 := hw
                            obtain ⟨hP1, hD1⟩ := hB
                            rw [ht] at hP1
                            obtain ⟨hP, hD⟩ := va_joinP (X := [(za, .inr (13, [.int 0, .ref z1, .int (nI z2), .int (nI z3), .int z4, .int z5, .ref z6, .ref z7, .ref z8, .ref z9, .int (nI z10), .ref z11, .ref z12, .ref z13, .ref z14, .ref z15, .int (nI zgw36), .ref z17, .int z18, .ref z19]))]) (cx := []) (wr := [(za, .inr (13, [.int 0, .ref z1, .int (nI z2), .int (nI z3), .int z4, .int z5, .ref z6, .ref z7, .ref z8, .ref z9, .int (nI z10), .ref z11, .ref z12, .ref z13, .ref z14, .ref z15, .int (nI zgw36), .ref z17, .int z18, .ref z19]))]) (rx := []) (pl := va_pl L M_229) (pl1 := va_pl L M_229) hP hD [] [0] rfl rfl (by decide) (by decide) hk1 hFc hP1 hD1
                            have hP : va_P D vwCl ([(za, .inr (13, [.int 0, .ref z1, .int (nI z2), .int (nI z3), .int z4, .int z5, .ref z6, .ref z7, .ref z8, .ref z9, .int (nI z10), .ref z11, .ref z12, .ref z13, .ref z14, .ref z15, .int (nI zgw36), .ref z17, .int z18, .ref z19]))] ++ va_pl L M_229) H_238 := hP
                            have hD : va_D A ([(za, .inr (13, [.int 0, .ref z1, .int (nI z2), .int (nI z3), .int z4, .int z5, .ref z6, .ref z7, .ref z8, .ref z9, .int (nI z10), .ref z11, .ref z12, .ref z13, .ref z14, .ref z15, .int (nI zgw36), .ref z17, .int z18, .ref z19]))] ++ va_pl L M_229) := hD
                            obtain ⟨j_242, rfl, c_243⟩ := hp_241
                            refine lv_goto (tgt := 243) hx hb dX13_bear_233 (by decide) ?_
                            refine lv_iconst (v := 3) hx hb dX13_bear_243 (by decide) ?_
                            refine lv_aload hx hb dX13_bear_244 (lv_at hl 3 rfl) ?_
                            obtain ⟨v244, hv244, hc244⟩ : ∃ v : Nat, fs14[20]? = some (.ref v : Value) ∧ isk K L v 31 24 := hl14 20 (by decide)
                            refine pg_getN (D := D) (ci := 12) (v := .ref v244) (C := RX12) (T := TX12) (N := 51) hx hb hg inG12 hown hK hP hb_13.1 hM_231 rfl 20 (by decide) (hN.use (Cond.fieldLinkNest RX13 110 RX12 "where" "[I" RX13) 29 rfl rfl) (fun _ h9 => h9) hv244 dX13_bear_246 ?_
                            refine lv_iload hx hb dX13_bear_249 (lv_at hl 2 rfl) ?_
                            obtain ⟨f245, hM245, hf245⟩ := hW.open_31 hc244
                            have hi_246 : vp_in (nI v5w36) 24 := (inbN v5w36 24 (by omega) (by omega))
                            refine pg_iald hx hb hK hP hc244.1 0 hM245 rfl hi_246 dX13_bear_251 ?_
                            have hp_247 := hf245 _ (vp_lt hi_246)
                            obtain ⟨c_248, hc_249, ec_250⟩ := hp_247
                            rw [ec_250]
                            have hPc : va_P D vwCl ([] ++ va_pl L M_229) H_238 := hP.part (cx := []) [] rfl
                            have hDc : va_D A ([] ++ va_pl L M_229) := hD.part (cx := []) [] (by decide) rfl
                            have hFc : ∀ q, va_A ([] ++ va_pl L M_229) H_238.size q → A q := pg_free hDc hS hA
                            refine va_calli (va_runV (As := [.int (nI j_242), .int 3, .int (nI c_248)]) (rest := [.int (nI zgw36), .ref z12]) ⟨hx, hb, hml, hown, hg⟩ (r_X12_term l D cy K L M_229 H_238.size b11 j_242 3 c_248  hW hb_13 c_243 (by omega) hc_249) (cwV 3 hg (gV wd_770 wd_771 wd_772 wd_737 wd_773) rfl rfl rfl (by decide +kernel) ⟨(Nat.le_trans (Nat.le_of_ble_eq_true rfl) hRf), (Nat.le_trans (Nat.le_of_ble_eq_true rfl) hRl)⟩) ⟨PG.blind, pg_recv hK hP hb_13.1 hM_231 rfl, fun U hU hW => ⟨rfl, PG.at hPc hK hDc hN hU hW⟩⟩ rfl rfl hl.1 rfl (lv_room (Nat.le_of_ble_eq_true rfl)) dX13_bear_252 ⟨(Nat.le_trans (Nat.le_of_ble_eq_true rfl) hRc), (Nat.le_trans (Nat.le_of_ble_eq_true rfl) hRs)⟩) hS (fun q _ h => hFc q h) hFc (fun r_252 M_253 t H_251 locs ht hvm hw hB hz1 hk1 hS => ?_)
                            have hp_254 := hw
                            obtain ⟨hP1, hD1⟩ := hB
                            rw [ht] at hP1
                            obtain ⟨hP, hD⟩ := va_joinP (X := [(za, .inr (13, [.int 0, .ref z1, .int (nI z2), .int (nI z3), .int z4, .int z5, .ref z6, .ref z7, .ref z8, .ref z9, .int (nI z10), .ref z11, .ref z12, .ref z13, .ref z14, .ref z15, .int (nI zgw36), .ref z17, .int z18, .ref z19]))]) (cx := []) (wr := [(za, .inr (13, [.int 0, .ref z1, .int (nI z2), .int (nI z3), .int z4, .int z5, .ref z6, .ref z7, .ref z8, .ref z9, .int (nI z10), .ref z11, .ref z12, .ref z13, .ref z14, .ref z15, .int (nI zgw36), .ref z17, .int z18, .ref z19]))]) (rx := []) (pl := va_pl L M_229) (pl1 := va_pl L M_229) hP hD [] [0] rfl rfl (by decide) (by decide) hk1 hFc hP1 hD1
                            have hP : va_P D vwCl ([(za, .inr (13, [.int 0, .ref z1, .int (nI z2), .int (nI z3), .int z4, .int z5, .ref z6, .ref z7, .ref z8, .ref z9, .int (nI z10), .ref z11, .ref z12, .ref z13, .ref z14, .ref z15, .int (nI zgw36), .ref z17, .int z18, .ref z19]))] ++ va_pl L M_229) H_251 := hP
                            have hD : va_D A ([(za, .inr (13, [.int 0, .ref z1, .int (nI z2), .int (nI z3), .int z4, .int z5, .ref z6, .ref z7, .ref z8, .ref z9, .int (nI z10), .ref z11, .ref z12, .ref z13, .ref z14, .ref z15, .int (nI zgw36), .ref z17, .int z18, .ref z19]))] ++ va_pl L M_229) := hD
                            obtain ⟨f255, hM255⟩ := hW.open_14 i12
                            refine pg_iast hx hb hK hP hD hS i12.1 0 hM255 rfl (inbN zgw36 24 (by omega) (by omega)) dX13_bear_255 (fun H_256 locs hP hD hS => ?_)
                            obtain ⟨M_257, eM_257⟩ : ∃ M1 : Hp, M1 = va_up M_229 z12 (.inl (cy 14, 24, .inl (upd f255 ((nI zgw36) : Int32).toNatClampNeg r_252))) := ⟨_, rfl⟩
                            have hP : va_P D vwCl ([(za, .inr (13, [.int 0, .ref z1, .int (nI z2), .int (nI z3), .int z4, .int z5, .ref z6, .ref z7, .ref z8, .ref z9, .int (nI z10), .ref z11, .ref z12, .ref z13, .ref z14, .ref z15, .int (nI zgw36), .ref z17, .int z18, .ref z19]))] ++ va_pl L M_257) H_256 := by rw [eM_257]; exact hP
                            have hD : va_D A ([(za, .inr (13, [.int 0, .ref z1, .int (nI z2), .int (nI z3), .int z4, .int z5, .ref z6, .ref z7, .ref z8, .ref z9, .int (nI z10), .ref z11, .ref z12, .ref z13, .ref z14, .ref z15, .int (nI zgw36), .ref z17, .int z18, .ref z19]))] ++ va_pl L M_257) := by rw [eM_257]; exact hD
                            have hW : WOM cy K L M_257 := by rw [eM_257]; exact hW.up_14 i12 ⟨_, rfl⟩
                            have hF : fr K L [14, 15, 32] M M_257 := by rw [eM_257]; exact hF.up i12 (by decide)
                            have hM_258 : M_257 z12 = .inl (cy 14, 24, .inl (upd f255 ((nI zgw36) : Int32).toNatClampNeg r_252)) := by rw [eM_257]; exact va_up_self _ _ _
                            have hM_259 : M_257 z11 = .inl (cy 14, 24, .inl (f_235)) := by rw [eM_257, va_up_ne _ _ (i11.neT i12 (by decide))]; exact hM_230
                            have hM_260 : M_257 b11 = .inr (12, fs14) := by rw [eM_257, va_up_ne _ _ (hb_13.neT i12 (by decide))]; exact hM_231
                            have hM_261 : M_257 v109 = .inl (cy 14, 24, .inl (f110)) := by rw [eM_257, va_up_ne _ _ (hc109.neT i12 (by decide))]; exact hM_232
                            have hM_262 : M_257 v166 = .inl (cy 16, 24, .inl (f167)) := by rw [eM_257, va_up_ne _ _ (hc166.neT i12 (by decide))]; exact hM_234
                            have hM_263 : M_257 v244 = .inl (cy 14, 24, .inl (f245)) := by rw [eM_257, va_up_ne _ _ (hc244.neT i12 (by decide))]; exact hM245
                            obtain ⟨f_264, ef_264⟩ : ∃ f : Nat → Int32, f = upd f255 ((nI zgw36) : Int32).toNatClampNeg r_252 := ⟨_, rfl⟩
                            rw [← ef_264] at hM_258
                            clear ef_264
                            refine lv_aload_n hx hb dX13_bear_256 rfl (lv_at hl 4 rfl) ?_
                            refine va_get (D := D) (ci := 13) (v := .ref z13) (C := RX13) (T := TX13) (N := 20) hx hb hg inG13 hown hK hP 0 rfl rfl 13 (by decide) (hg _ wd_789) (fun _ h9 => h9) rfl dX13_bear_257 ?_
                            refine lv_aload_n hx hb dX13_bear_260 rfl (lv_at hl 4 rfl) ?_
                            refine va_get (D := D) (ci := 13) (v := .int (nI zgw36)) (C := RX13) (T := TX13) (N := 20) hx hb hg inG13 hown hK hP 0 rfl rfl 16 (by decide) (hg _ wd_769) (fun _ h9 => h9) rfl dX13_bear_261 ?_
                            refine lv_lconst (v := 0) hx hb dX13_bear_264 (by decide) ?_
                            obtain ⟨f265, hM265⟩ := hW.open_15 i13
                            refine pg_last hx hb hK hP hD hS i13.1 1 hM265 rfl (inbN zgw36 24 (by omega) (by omega)) dX13_bear_265 (fun H_266 locs hP hD hS => ?_)
                            obtain ⟨M_267, eM_267⟩ : ∃ M1 : Hp, M1 = va_up M_257 z13 (.inl (cy 15, 24, .inr (.inl (vp_updL f265 ((nI zgw36) : Int32).toNatClampNeg 0)))) := ⟨_, rfl⟩
                            have hP : va_P D vwCl ([(za, .inr (13, [.int 0, .ref z1, .int (nI z2), .int (nI z3), .int z4, .int z5, .ref z6, .ref z7, .ref z8, .ref z9, .int (nI z10), .ref z11, .ref z12, .ref z13, .ref z14, .ref z15, .int (nI zgw36), .ref z17, .int z18, .ref z19]))] ++ va_pl L M_267) H_266 := by rw [eM_267]; exact hP
                            have hD : va_D A ([(za, .inr (13, [.int 0, .ref z1, .int (nI z2), .int (nI z3), .int z4, .int z5, .ref z6, .ref z7, .ref z8, .ref z9, .int (nI z10), .ref z11, .ref z12, .ref z13, .ref z14, .ref z15, .int (nI zgw36), .ref z17, .int z18, .ref z19]))] ++ va_pl L M_267) := by rw [eM_267]; exact hD
                            have hW : WOM cy K L M_267 := by rw [eM_267]; exact hW.up_15 i13 ⟨_, rfl⟩
                            have hF : fr K L [14, 15, 32] M M_267 := by rw [eM_267]; exact hF.up i13 (by decide)
                            have hM_268 : M_267 z13 = .inl (cy 15, 24, .inr (.inl (vp_updL f265 ((nI zgw36) : Int32).toNatClampNeg 0))) := by rw [eM_267]; exact va_up_self _ _ _
                            have hM_269 : M_267 z12 = .inl (cy 14, 24, .inl (f_264)) := by rw [eM_267, va_up_ne _ _ (i12.neT i13 (by decide))]; exact hM_258
                            have hM_270 : M_267 z11 = .inl (cy 14, 24, .inl (f_235)) := by rw [eM_267, va_up_ne _ _ (i11.neT i13 (by decide))]; exact hM_259
                            have hM_271 : M_267 b11 = .inr (12, fs14) := by rw [eM_267, va_up_ne _ _ (hb_13.neT i13 (by decide))]; exact hM_260
                            have hM_272 : M_267 v109 = .inl (cy 14, 24, .inl (f110)) := by rw [eM_267, va_up_ne _ _ (hc109.neT i13 (by decide))]; exact hM_261
                            have hM_273 : M_267 v166 = .inl (cy 16, 24, .inl (f167)) := by rw [eM_267, va_up_ne _ _ (hc166.neT i13 (by decide))]; exact hM_262
                            have hM_274 : M_267 v244 = .inl (cy 14, 24, .inl (f245)) := by rw [eM_267, va_up_ne _ _ (hc244.neT i13 (by decide))]; exact hM_263
                            obtain ⟨f_275, ef_275⟩ : ∃ f : Nat → Int64, f = vp_updL f265 ((nI zgw36) : Int32).toNatClampNeg 0 := ⟨_, rfl⟩
                            rw [← ef_275] at hM_268
                            clear ef_275
                            refine lv_aload_n hx hb dX13_bear_266 rfl (lv_at hl 4 rfl) ?_
                            refine lv_dup hx hb dX13_bear_267 rfl ?_
                            refine va_get (D := D) (ci := 13) (v := .int (nI zgw36)) (C := RX13) (T := TX13) (N := 20) hx hb hg inG13 hown hK hP 0 rfl rfl 16 (by decide) (hg _ wd_769) (fun _ h9 => h9) rfl dX13_bear_268 ?_
                            refine lv_iconst (v := 1) hx hb dX13_bear_271 (by decide) ?_
                            refine lv_iadd hx hb dX13_bear_272 ?_
                            refine lv_topi (fun f_276 ef_276 => ?_)
                            obtain rfl : f_276 = (nI (zgw36 + 1)) := ef_276.trans (nI_add zgw36 1)
                            refine va_put (D := D) (ci := 13) (v := .int (nI (zgw36 + 1))) (ty := .int) (C := RX13) (T := TX13) (N := 20) hx hb hg inG13 tyX13 tyX13_ok nmX13 hown hK hP hD hS 0 rfl rfl 16 (by decide) (hg _ wd_769) (fun _ h9 => h9) rfl (by decide +kernel) rfl rfl (Nat.le_of_ble_eq_true rfl) dX13_bear_273 (fun H_277 locs hP hD hS => ?_)
                            have hP : va_P D vwCl ([(za, .inr (13, [.int 0, .ref z1, .int (nI z2), .int (nI z3), .int z4, .int z5, .ref z6, .ref z7, .ref z8, .ref z9, .int (nI z10), .ref z11, .ref z12, .ref z13, .ref z14, .ref z15, .int (nI (zgw36 + 1)), .ref z17, .int z18, .ref z19]))] ++ va_pl L M_267) H_277 := hP
                            have hD : va_D A ([(za, .inr (13, [.int 0, .ref z1, .int (nI z2), .int (nI z3), .int z4, .int z5, .ref z6, .ref z7, .ref z8, .ref z9, .int (nI z10), .ref z11, .ref z12, .ref z13, .ref z14, .ref z15, .int (nI (zgw36 + 1)), .ref z17, .int z18, .ref z19]))] ++ va_pl L M_267) := hD
                            refine lv_iinc (v := (nI (v5w36 + 1))) (lv' := [(5, .int (nI (v5w36 + 1))), (7, .int 0), (6, .int 1), (4, .ref b11), (0, .ref za), (1, .int k1), (2, .int k2), (3, .int k3)]) hx hb dX13_bear_276 hl (k := 2) rfl (nI_1 v5w36) (by decide) rfl (fun ls hl => ?_)
                            refine lv_goto (tgt := 82) hx hb dX13_bear_279 (by decide) ?_
                            exact ih_34 (v5w36 + 1) (zgw36 + 1) M_267 H_277 _ _ (by omega) hM_271 (by omega) (by omega) hW hF hP hD hS (lv_sub hl [0, 3, 4, 5, 6, 7] rfl)
                          · have hz := rfl (a := 0)
                            refine lv_iconst (v := 1) hx hb dX13_bear_181 (by decide) ?_
                            refine lv_goto (tgt := 186) hx hb dX13_bear_182 (by decide) ?_
                            refine lv_istore (lv' := [(7, .int 1), (6, .int 1), (5, .int (nI v5w36)), (4, .ref b11), (0, .ref za), (1, .int k1), (2, .int k2), (3, .int k3)]) hx hb dX13_bear_186 hl (by decide) rfl (fun ls hl => ?_)
                            refine lv_iload hx hb dX13_bear_188 (lv_at hl 1 rfl) ?_
                            refine lv_if_ne (tgt := 201) hx hb dX13_bear_190 (by decide) (fun _ => ?_) (fun c_278 => absurd c_278 (by decide))
                            refine lv_aload_n hx hb dX13_bear_201 rfl (lv_at hl 4 rfl) ?_
                            refine va_get (D := D) (ci := 13) (v := .ref z11) (C := RX13) (T := TX13) (N := 20) hx hb hg inG13 hown hK hP 0 rfl rfl 11 (by decide) (hg _ wd_764) (fun _ h9 => h9) rfl dX13_bear_202 ?_
                            refine lv_aload_n hx hb dX13_bear_205 rfl (lv_at hl 4 rfl) ?_
                            refine va_get (D := D) (ci := 13) (v := .int (nI zgw36)) (C := RX13) (T := TX13) (N := 20) hx hb hg inG13 hown hK hP 0 rfl rfl 16 (by decide) (hg _ wd_769) (fun _ h9 => h9) rfl dX13_bear_206 ?_
                            refine lv_iload hx hb dX13_bear_209 (lv_at hl 2 rfl) ?_
                            obtain ⟨f279, hM279, hf279⟩ := hW.open_32 i11
                            refine pg_iast hx hb hK hP hD hS i11.1 0 hM279 rfl (inbN zgw36 24 (by omega) (by omega)) dX13_bear_211 (fun H_280 locs hP hD hS => ?_)
                            obtain ⟨M_281, eM_281⟩ : ∃ M1 : Hp, M1 = va_up M_39 z11 (.inl (cy 14, 24, .inl (upd f279 ((nI zgw36) : Int32).toNatClampNeg (nI v5w36)))) := ⟨_, rfl⟩
                            have hP : va_P D vwCl ([(za, .inr (13, [.int 0, .ref z1, .int (nI z2), .int (nI z3), .int z4, .int z5, .ref z6, .ref z7, .ref z8, .ref z9, .int (nI z10), .ref z11, .ref z12, .ref z13, .ref z14, .ref z15, .int (nI zgw36), .ref z17, .int z18, .ref z19]))] ++ va_pl L M_281) H_280 := by rw [eM_281]; exact hP
                            have hD : va_D A ([(za, .inr (13, [.int 0, .ref z1, .int (nI z2), .int (nI z3), .int z4, .int z5, .ref z6, .ref z7, .ref z8, .ref z9, .int (nI z10), .ref z11, .ref z12, .ref z13, .ref z14, .ref z15, .int (nI zgw36), .ref z17, .int z18, .ref z19]))] ++ va_pl L M_281) := by rw [eM_281]; exact hD
                            have hW : WOM cy K L M_281 := by rw [eM_281]; exact hW.up_32 i11 ⟨_, rfl, (updP (P := fun z => ∃ c : Nat, c < 24 ∧ z = nI c) hf279 ⟨v5w36, by omega, rfl⟩)⟩
                            have hF : fr K L [14, 15, 32] M M_281 := by rw [eM_281]; exact hF.up i11 (by decide)
                            have hM_282 : M_281 z11 = .inl (cy 14, 24, .inl (upd f279 ((nI zgw36) : Int32).toNatClampNeg (nI v5w36))) := by rw [eM_281]; exact va_up_self _ _ _
                            have hM_283 : M_281 b11 = .inr (12, fs14) := by rw [eM_281, va_up_ne _ _ (hb_13.neT i11 (by decide))]; exact hM_41
                            have hM_284 : M_281 v109 = .inl (cy 14, 24, .inl (f110)) := by rw [eM_281, va_up_ne _ _ (hc109.neT i11 (by decide))]; exact hM110
                            have hM_285 : M_281 v113 = .inl (cy 14, 24, .inl (f114)) := by rw [eM_281, va_up_ne _ _ (hc113.neT i11 (by decide))]; exact hM114
                            have hM_286 : M_281 v166 = .inl (cy 16, 24, .inl (f167)) := by rw [eM_281, va_up_ne _ _ (hc166.neT i11 (by decide))]; exact hM167
                            have hf_288 : ∀ j, j < 24 → ∃ c : Nat, c < 24 ∧ (upd f279 ((nI zgw36) : Int32).toNatClampNeg (nI v5w36)) j = nI c := (updP (P := fun z => ∃ c : Nat, c < 24 ∧ z = nI c) hf279 ⟨v5w36, by omega, rfl⟩)
                            obtain ⟨f_287, ef_287⟩ : ∃ f : Nat → Int32, f = upd f279 ((nI zgw36) : Int32).toNatClampNeg (nI v5w36) := ⟨_, rfl⟩
                            rw [← ef_287] at hM_282 hf_288
                            clear ef_287
                            refine lv_aload_n hx hb dX13_bear_212 rfl (lv_at hl 4 rfl) ?_
                            refine va_get (D := D) (ci := 13) (v := .ref z12) (C := RX13) (T := TX13) (N := 20) hx hb hg inG13 hown hK hP 0 rfl rfl 12 (by decide) (hg _ wd_763) (fun _ h9 => h9) rfl dX13_bear_213 ?_
                            refine lv_aload_n hx hb dX13_bear_216 rfl (lv_at hl 4 rfl) ?_
                            refine va_get (D := D) (ci := 13) (v := .int (nI zgw36)) (C := RX13) (T := TX13) (N := 20) hx hb hg inG13 hown hK hP 0 rfl rfl 16 (by decide) (hg _ wd_769) (fun _ h9 => h9) rfl dX13_bear_217 ?_
                            refine lv_aload hx hb dX13_bear_220 (lv_at hl 3 rfl) ?_
                            refine lv_iload hx hb dX13_bear_222 (lv_at hl 1 rfl) ?_
                            refine lv_if_eq (tgt := 236) hx hb dX13_bear_224 (by decide) (fun c_289 => absurd c_289 (by decide)) (fun _ => ?_)
                            refine lv_aload hx hb dX13_bear_227 (lv_at hl 3 rfl) ?_
                            refine lv_iload_n hx hb dX13_bear_229 rfl (lv_at hl 6 rfl) ?_
                            have hPc : va_P D vwCl ([] ++ va_pl L M_281) H_280 := hP.part (cx := []) [] rfl
                            have hDc : va_D A ([] ++ va_pl L M_281) := hD.part (cx := []) [] (by decide) rfl
                            have hFc : ∀ q, va_A ([] ++ va_pl L M_281) H_280.size q → A q := pg_free hDc hS hA
                            refine va_calli (va_runV (As := [.int k2]) (rest := [.ref b11, .int (nI zgw36), .ref z12]) ⟨hx, hb, hml, hown, hg⟩ (r_ruleOnP l D cy K L M_281 H_280.size b11 k2  hW hb_13 (RLD.of hW (RLI.fr hW0 hRL hF (by decide) (by decide)) hb_13 hM_283 hv15 (by omega) hc15 hv24 (Int32.not_lt.mp c_25))) (cwV 1 hg (gV wd_815 wd_816 wd_817 wd_737 wd_818) rfl rfl rfl (by decide +kernel) ⟨(Nat.le_trans (Nat.le_of_ble_eq_true rfl) hRf), (Nat.le_trans (Nat.le_of_ble_eq_true rfl) hRl)⟩) ⟨PG.blind, pg_recv hK hP hb_13.1 hM_283 rfl, fun U hU hW => ⟨rfl, PG.at hPc hK hDc hN hU hW⟩⟩ rfl rfl hl.1 rfl (lv_room (Nat.le_of_ble_eq_true rfl)) dX13_bear_230 ⟨(Nat.le_trans (Nat.le_of_ble_eq_true rfl) hRc), (Nat.le_trans (Nat.le_of_ble_eq_true rfl) hRs)⟩) hS (fun q _ h => hFc q h) hFc (fun r_291 M_292 t H_290 locs ht hvm hw hB hz1 hk1 hS => ?_)
                            have hp_293 := hw
                            obtain ⟨hP1, hD1⟩ := hB
                            rw [ht] at hP1
                            obtain ⟨hP, hD⟩ := va_joinP (X := [(za, .inr (13, [.int 0, .ref z1, .int (nI z2), .int (nI z3), .int z4, .int z5, .ref z6, .ref z7, .ref z8, .ref z9, .int (nI z10), .ref z11, .ref z12, .ref z13, .ref z14, .ref z15, .int (nI zgw36), .ref z17, .int z18, .ref z19]))]) (cx := []) (wr := [(za, .inr (13, [.int 0, .ref z1, .int (nI z2), .int (nI z3), .int z4, .int z5, .ref z6, .ref z7, .ref z8, .ref z9, .int (nI z10), .ref z11, .ref z12, .ref z13, .ref z14, .ref z15, .int (nI zgw36), .ref z17, .int z18, .ref z19]))]) (rx := []) (pl := va_pl L M_281) (pl1 := va_pl L M_281) hP hD [] [0] rfl rfl (by decide) (by decide) hk1 hFc hP1 hD1
                            have hP : va_P D vwCl ([(za, .inr (13, [.int 0, .ref z1, .int (nI z2), .int (nI z3), .int z4, .int z5, .ref z6, .ref z7, .ref z8, .ref z9, .int (nI z10), .ref z11, .ref z12, .ref z13, .ref z14, .ref z15, .int (nI zgw36), .ref z17, .int z18, .ref z19]))] ++ va_pl L M_281) H_290 := hP
                            have hD : va_D A ([(za, .inr (13, [.int 0, .ref z1, .int (nI z2), .int (nI z3), .int z4, .int z5, .ref z6, .ref z7, .ref z8, .ref z9, .int (nI z10), .ref z11, .ref z12, .ref z13, .ref z14, .ref z15, .int (nI zgw36), .ref z17, .int z18, .ref z19]))] ++ va_pl L M_281) := hD
                            obtain ⟨j_294, rfl, c_295⟩ := hp_293
                            refine lv_goto (tgt := 243) hx hb dX13_bear_233 (by decide) ?_
                            refine lv_iconst (v := 3) hx hb dX13_bear_243 (by decide) ?_
                            refine lv_aload hx hb dX13_bear_244 (lv_at hl 3 rfl) ?_
                            obtain ⟨v296, hv296, hc296⟩ : ∃ v : Nat, fs14[20]? = some (.ref v : Value) ∧ isk K L v 31 24 := hl14 20 (by decide)
                            refine pg_getN (D := D) (ci := 12) (v := .ref v296) (C := RX12) (T := TX12) (N := 51) hx hb hg inG12 hown hK hP hb_13.1 hM_283 rfl 20 (by decide) (hN.use (Cond.fieldLinkNest RX13 110 RX12 "where" "[I" RX13) 29 rfl rfl) (fun _ h9 => h9) hv296 dX13_bear_246 ?_
                            refine lv_iload hx hb dX13_bear_249 (lv_at hl 2 rfl) ?_
                            obtain ⟨f297, hM297, hf297⟩ := hW.open_31 hc296
                            have hi_298 : vp_in (nI v5w36) 24 := (inbN v5w36 24 (by omega) (by omega))
                            refine pg_iald hx hb hK hP hc296.1 0 hM297 rfl hi_298 dX13_bear_251 ?_
                            have hp_299 := hf297 _ (vp_lt hi_298)
                            obtain ⟨c_300, hc_301, ec_302⟩ := hp_299
                            rw [ec_302]
                            have hPc : va_P D vwCl ([] ++ va_pl L M_281) H_290 := hP.part (cx := []) [] rfl
                            have hDc : va_D A ([] ++ va_pl L M_281) := hD.part (cx := []) [] (by decide) rfl
                            have hFc : ∀ q, va_A ([] ++ va_pl L M_281) H_290.size q → A q := pg_free hDc hS hA
                            refine va_calli (va_runV (As := [.int (nI j_294), .int 3, .int (nI c_300)]) (rest := [.int (nI zgw36), .ref z12]) ⟨hx, hb, hml, hown, hg⟩ (r_X12_term l D cy K L M_281 H_290.size b11 j_294 3 c_300  hW hb_13 c_295 (by omega) hc_301) (cwV 3 hg (gV wd_770 wd_771 wd_772 wd_737 wd_773) rfl rfl rfl (by decide +kernel) ⟨(Nat.le_trans (Nat.le_of_ble_eq_true rfl) hRf), (Nat.le_trans (Nat.le_of_ble_eq_true rfl) hRl)⟩) ⟨PG.blind, pg_recv hK hP hb_13.1 hM_283 rfl, fun U hU hW => ⟨rfl, PG.at hPc hK hDc hN hU hW⟩⟩ rfl rfl hl.1 rfl (lv_room (Nat.le_of_ble_eq_true rfl)) dX13_bear_252 ⟨(Nat.le_trans (Nat.le_of_ble_eq_true rfl) hRc), (Nat.le_trans (Nat.le_of_ble_eq_true rfl) hRs)⟩) hS (fun q _ h => hFc q h) hFc (fun r_304 M_305 t H_303 locs ht hvm hw hB hz1 hk1 hS => ?_)
                            have hp_306 := hw
                            obtain ⟨hP1, hD1⟩ := hB
                            rw [ht] at hP1
                            obtain ⟨hP, hD⟩ := va_joinP (X := [(za, .inr (13, [.int 0, .ref z1, .int (nI z2), .int (nI z3), .int z4, .int z5, .ref z6, .ref z7, .ref z8, .ref z9, .int (nI z10), .ref z11, .ref z12, .ref z13, .ref z14, .ref z15, .int (nI zgw36), .ref z17, .int z18, .ref z19]))]) (cx := []) (wr := [(za, .inr (13, [.int 0, .ref z1, .int (nI z2), .int (nI z3), .int z4, .int z5, .ref z6, .ref z7, .ref z8, .ref z9, .int (nI z10), .ref z11, .ref z12, .ref z13, .ref z14, .ref z15, .int (nI zgw36), .ref z17, .int z18, .ref z19]))]) (rx := []) (pl := va_pl L M_281) (pl1 := va_pl L M_281) hP hD [] [0] rfl rfl (by decide) (by decide) hk1 hFc hP1 hD1
                            have hP : va_P D vwCl ([(za, .inr (13, [.int 0, .ref z1, .int (nI z2), .int (nI z3), .int z4, .int z5, .ref z6, .ref z7, .ref z8, .ref z9, .int (nI z10), .ref z11, .ref z12, .ref z13, .ref z14, .ref z15, .int (nI zgw36), .ref z17, .int z18, .ref z19]))] ++ va_pl L M_281) H_303 := hP
                            have hD : va_D A ([(za, .inr (13, [.int 0, .ref z1, .int (nI z2), .int (nI z3), .int z4, .int z5, .ref z6, .ref z7, .ref z8, .ref z9, .int (nI z10), .ref z11, .ref z12, .ref z13, .ref z14, .ref z15, .int (nI zgw36), .ref z17, .int z18, .ref z19]))] ++ va_pl L M_281) := hD
                            obtain ⟨f307, hM307⟩ := hW.open_14 i12
                            refine pg_iast hx hb hK hP hD hS i12.1 0 hM307 rfl (inbN zgw36 24 (by omega) (by omega)) dX13_bear_255 (fun H_308 locs hP hD hS => ?_)
                            obtain ⟨M_309, eM_309⟩ : ∃ M1 : Hp, M1 = va_up M_281 z12 (.inl (cy 14, 24, .inl (upd f307 ((nI zgw36) : Int32).toNatClampNeg r_304))) := ⟨_, rfl⟩
                            have hP : va_P D vwCl ([(za, .inr (13, [.int 0, .ref z1, .int (nI z2), .int (nI z3), .int z4, .int z5, .ref z6, .ref z7, .ref z8, .ref z9, .int (nI z10), .ref z11, .ref z12, .ref z13, .ref z14, .ref z15, .int (nI zgw36), .ref z17, .int z18, .ref z19]))] ++ va_pl L M_309) H_308 := by rw [eM_309]; exact hP
                            have hD : va_D A ([(za, .inr (13, [.int 0, .ref z1, .int (nI z2), .int (nI z3), .int z4, .int z5, .ref z6, .ref z7, .ref z8, .ref z9, .int (nI z10), .ref z11, .ref z12, .ref z13, .ref z14, .ref z15, .int (nI zgw36), .ref z17, .int z18, .ref z19]))] ++ va_pl L M_309) := by rw [eM_309]; exact hD
                            have hW : WOM cy K L M_309 := by rw [eM_309]; exact hW.up_14 i12 ⟨_, rfl⟩
                            have hF : fr K L [14, 15, 32] M M_309 := by rw [eM_309]; exact hF.up i12 (by decide)
                            have hM_310 : M_309 z12 = .inl (cy 14, 24, .inl (upd f307 ((nI zgw36) : Int32).toNatClampNeg r_304)) := by rw [eM_309]; exact va_up_self _ _ _
                            have hM_311 : M_309 z11 = .inl (cy 14, 24, .inl (f_287)) := by rw [eM_309, va_up_ne _ _ (i11.neT i12 (by decide))]; exact hM_282
                            have hM_312 : M_309 b11 = .inr (12, fs14) := by rw [eM_309, va_up_ne _ _ (hb_13.neT i12 (by decide))]; exact hM_283
                            have hM_313 : M_309 v109 = .inl (cy 14, 24, .inl (f110)) := by rw [eM_309, va_up_ne _ _ (hc109.neT i12 (by decide))]; exact hM_284
                            have hM_314 : M_309 v166 = .inl (cy 16, 24, .inl (f167)) := by rw [eM_309, va_up_ne _ _ (hc166.neT i12 (by decide))]; exact hM_286
                            have hM_315 : M_309 v296 = .inl (cy 14, 24, .inl (f297)) := by rw [eM_309, va_up_ne _ _ (hc296.neT i12 (by decide))]; exact hM297
                            obtain ⟨f_316, ef_316⟩ : ∃ f : Nat → Int32, f = upd f307 ((nI zgw36) : Int32).toNatClampNeg r_304 := ⟨_, rfl⟩
                            rw [← ef_316] at hM_310
                            clear ef_316
                            refine lv_aload_n hx hb dX13_bear_256 rfl (lv_at hl 4 rfl) ?_
                            refine va_get (D := D) (ci := 13) (v := .ref z13) (C := RX13) (T := TX13) (N := 20) hx hb hg inG13 hown hK hP 0 rfl rfl 13 (by decide) (hg _ wd_789) (fun _ h9 => h9) rfl dX13_bear_257 ?_
                            refine lv_aload_n hx hb dX13_bear_260 rfl (lv_at hl 4 rfl) ?_
                            refine va_get (D := D) (ci := 13) (v := .int (nI zgw36)) (C := RX13) (T := TX13) (N := 20) hx hb hg inG13 hown hK hP 0 rfl rfl 16 (by decide) (hg _ wd_769) (fun _ h9 => h9) rfl dX13_bear_261 ?_
                            refine lv_lconst (v := 0) hx hb dX13_bear_264 (by decide) ?_
                            obtain ⟨f317, hM317⟩ := hW.open_15 i13
                            refine pg_last hx hb hK hP hD hS i13.1 1 hM317 rfl (inbN zgw36 24 (by omega) (by omega)) dX13_bear_265 (fun H_318 locs hP hD hS => ?_)
                            obtain ⟨M_319, eM_319⟩ : ∃ M1 : Hp, M1 = va_up M_309 z13 (.inl (cy 15, 24, .inr (.inl (vp_updL f317 ((nI zgw36) : Int32).toNatClampNeg 0)))) := ⟨_, rfl⟩
                            have hP : va_P D vwCl ([(za, .inr (13, [.int 0, .ref z1, .int (nI z2), .int (nI z3), .int z4, .int z5, .ref z6, .ref z7, .ref z8, .ref z9, .int (nI z10), .ref z11, .ref z12, .ref z13, .ref z14, .ref z15, .int (nI zgw36), .ref z17, .int z18, .ref z19]))] ++ va_pl L M_319) H_318 := by rw [eM_319]; exact hP
                            have hD : va_D A ([(za, .inr (13, [.int 0, .ref z1, .int (nI z2), .int (nI z3), .int z4, .int z5, .ref z6, .ref z7, .ref z8, .ref z9, .int (nI z10), .ref z11, .ref z12, .ref z13, .ref z14, .ref z15, .int (nI zgw36), .ref z17, .int z18, .ref z19]))] ++ va_pl L M_319) := by rw [eM_319]; exact hD
                            have hW : WOM cy K L M_319 := by rw [eM_319]; exact hW.up_15 i13 ⟨_, rfl⟩
                            have hF : fr K L [14, 15, 32] M M_319 := by rw [eM_319]; exact hF.up i13 (by decide)
                            have hM_320 : M_319 z13 = .inl (cy 15, 24, .inr (.inl (vp_updL f317 ((nI zgw36) : Int32).toNatClampNeg 0))) := by rw [eM_319]; exact va_up_self _ _ _
                            have hM_321 : M_319 z12 = .inl (cy 14, 24, .inl (f_316)) := by rw [eM_319, va_up_ne _ _ (i12.neT i13 (by decide))]; exact hM_310
                            have hM_322 : M_319 z11 = .inl (cy 14, 24, .inl (f_287)) := by rw [eM_319, va_up_ne _ _ (i11.neT i13 (by decide))]; exact hM_311
                            have hM_323 : M_319 b11 = .inr (12, fs14) := by rw [eM_319, va_up_ne _ _ (hb_13.neT i13 (by decide))]; exact hM_312
                            have hM_324 : M_319 v109 = .inl (cy 14, 24, .inl (f110)) := by rw [eM_319, va_up_ne _ _ (hc109.neT i13 (by decide))]; exact hM_313
                            have hM_325 : M_319 v166 = .inl (cy 16, 24, .inl (f167)) := by rw [eM_319, va_up_ne _ _ (hc166.neT i13 (by decide))]; exact hM_314
                            have hM_326 : M_319 v296 = .inl (cy 14, 24, .inl (f297)) := by rw [eM_319, va_up_ne _ _ (hc296.neT i13 (by decide))]; exact hM_315
                            obtain ⟨f_327, ef_327⟩ : ∃ f : Nat → Int64, f = vp_updL f317 ((nI zgw36) : Int32).toNatClampNeg 0 := ⟨_, rfl⟩
                            rw [← ef_327] at hM_320
                            clear ef_327
                            refine lv_aload_n hx hb dX13_bear_266 rfl (lv_at hl 4 rfl) ?_
                            refine lv_dup hx hb dX13_bear_267 rfl ?_
                            refine va_get (D := D) (ci := 13) (v := .int (nI zgw36)) (C := RX13) (T := TX13) (N := 20) hx hb hg inG13 hown hK hP 0 rfl rfl 16 (by decide) (hg _ wd_769) (fun _ h9 => h9) rfl dX13_bear_268 ?_
                            refine lv_iconst (v := 1) hx hb dX13_bear_271 (by decide) ?_
                            refine lv_iadd hx hb dX13_bear_272 ?_
                            refine lv_topi (fun f_328 ef_328 => ?_)
                            obtain rfl : f_328 = (nI (zgw36 + 1)) := ef_328.trans (nI_add zgw36 1)
                            refine va_put (D := D) (ci := 13) (v := .int (nI (zgw36 + 1))) (ty := .int) (C := RX13) (T := TX13) (N := 20) hx hb hg inG13 tyX13 tyX13_ok nmX13 hown hK hP hD hS 0 rfl rfl 16 (by decide) (hg _ wd_769) (fun _ h9 => h9) rfl (by decide +kernel) rfl rfl (Nat.le_of_ble_eq_true rfl) dX13_bear_273 (fun H_329 locs hP hD hS => ?_)
                            have hP : va_P D vwCl ([(za, .inr (13, [.int 0, .ref z1, .int (nI z2), .int (nI z3), .int z4, .int z5, .ref z6, .ref z7, .ref z8, .ref z9, .int (nI z10), .ref z11, .ref z12, .ref z13, .ref z14, .ref z15, .int (nI (zgw36 + 1)), .ref z17, .int z18, .ref z19]))] ++ va_pl L M_319) H_329 := hP
                            have hD : va_D A ([(za, .inr (13, [.int 0, .ref z1, .int (nI z2), .int (nI z3), .int z4, .int z5, .ref z6, .ref z7, .ref z8, .ref z9, .int (nI z10), .ref z11, .ref z12, .ref z13, .ref z14, .ref z15, .int (nI (zgw36 + 1)), .ref z17, .int z18, .ref z19]))] ++ va_pl L M_319) := hD
                            refine lv_iinc (v := (nI (v5w36 + 1))) (lv' := [(5, .int (nI (v5w36 + 1))), (7, .int 1), (6, .int 1), (4, .ref b11), (0, .ref za), (1, .int k1), (2, .int k2), (3, .int k3)]) hx hb dX13_bear_276 hl (k := 2) rfl (nI_1 v5w36) (by decide) rfl (fun ls hl => ?_)
                            refine lv_goto (tgt := 82) hx hb dX13_bear_279 (by decide) ?_
                            exact ih_34 (v5w36 + 1) (zgw36 + 1) M_319 H_329 _ _ (by omega) hM_323 (by omega) (by omega) hW hF hP hD hS (lv_sub hl [0, 3, 4, 5, 6, 7] rfl)
                    · have hz := rfl (a := 0)
                      refine lv_aload hx hb dX13_bear_115 (lv_at hl 1 rfl) ?_
                      refine lv_aload hx hb dX13_bear_117 (lv_at hl 1 rfl) ?_
                      refine pg_getN (D := D) (ci := 12) (v := .ref v109) (C := RX12) (T := TX12) (N := 51) hx hb hg inG12 hown hK hP hb_13.1 hM_41 rfl 22 (by decide) (hN.use (Cond.fieldLinkNest RX13 95 RX12 "ended" "[I" RX13) 31 rfl rfl) (fun _ h9 => h9) hv109 dX13_bear_119 ?_
                      refine lv_iload hx hb dX13_bear_122 (lv_at hl 0 rfl) ?_
                      refine pg_iald hx hb hK hP hc109.1 0 hM110 rfl (inbN v5w36 24 (by omega) (by omega)) dX13_bear_124 ?_
                      refine lv_topi (fun f_330 ef_330 => ?_)
                      have hPc : va_P D vwCl ([] ++ va_pl L M_39) H_104 := hP.part (cx := []) [] rfl
                      have hDc : va_D A ([] ++ va_pl L M_39) := hD.part (cx := []) [] (by decide) rfl
                      have hFc : ∀ q, va_A ([] ++ va_pl L M_39) H_104.size q → A q := pg_free hDc hS hA
                      refine va_calli (va_runS (As := [.ref b11, .int f_330]) (rest := []) ⟨hx, hb, hml, hown, hg⟩ (r_X13_since l D cy K L M_39 H_104.size b11 f_330  hW hb_13) (va_cwS 2 hg (gS wd_819 wd_820 wd_717 wd_821) rfl rfl rfl (by decide +kernel) ⟨(Nat.le_trans (Nat.le_of_ble_eq_true rfl) hRf), (Nat.le_trans (Nat.le_of_ble_eq_true rfl) hRl)⟩) ⟨PG.blind, fun U hU hW => ⟨rfl, PG.at hPc hK hDc hN hU hW⟩⟩ rfl rfl hl.1 rfl (lv_room (Nat.le_of_ble_eq_true rfl)) dX13_bear_125 ⟨(Nat.le_trans (Nat.le_of_ble_eq_true rfl) hRc), (Nat.le_trans (Nat.le_of_ble_eq_true rfl) hRs)⟩) hS (fun q _ h => hFc q h) hFc (fun r_332 M_333 t H_331 locs ht hvm hw hB hz1 hk1 hS => ?_)
                      have hp_334 := hw
                      obtain ⟨hP1, hD1⟩ := hB
                      rw [ht] at hP1
                      obtain ⟨hP, hD⟩ := va_joinP (X := [(za, .inr (13, [.int 0, .ref z1, .int (nI z2), .int (nI z3), .int z4, .int z5, .ref z6, .ref z7, .ref z8, .ref z9, .int (nI z10), .ref z11, .ref z12, .ref z13, .ref z14, .ref z15, .int (nI zgw36), .ref z17, .int z18, .ref z19]))]) (cx := []) (wr := [(za, .inr (13, [.int 0, .ref z1, .int (nI z2), .int (nI z3), .int z4, .int z5, .ref z6, .ref z7, .ref z8, .ref z9, .int (nI z10), .ref z11, .ref z12, .ref z13, .ref z14, .ref z15, .int (nI zgw36), .ref z17, .int z18, .ref z19]))]) (rx := []) (pl := va_pl L M_39) (pl1 := va_pl L M_39) hP hD [] [0] rfl rfl (by decide) (by decide) hk1 hFc hP1 hD1
                      have hP : va_P D vwCl ([(za, .inr (13, [.int 0, .ref z1, .int (nI z2), .int (nI z3), .int z4, .int z5, .ref z6, .ref z7, .ref z8, .ref z9, .int (nI z10), .ref z11, .ref z12, .ref z13, .ref z14, .ref z15, .int (nI zgw36), .ref z17, .int z18, .ref z19]))] ++ va_pl L M_39) H_331 := hP
                      have hD : va_D A ([(za, .inr (13, [.int 0, .ref z1, .int (nI z2), .int (nI z3), .int z4, .int z5, .ref z6, .ref z7, .ref z8, .ref z9, .int (nI z10), .ref z11, .ref z12, .ref z13, .ref z14, .ref z15, .int (nI zgw36), .ref z17, .int z18, .ref z19]))] ++ va_pl L M_39) := hD
                      refine lv_aload hx hb dX13_bear_128 (lv_at hl 1 rfl) ?_
                      obtain ⟨v335, hv335, hc335⟩ : ∃ v : Nat, fs14[24]? = some (.ref v : Value) ∧ isk K L v 14 24 := hl14 24 (by decide)
                      refine pg_getN (D := D) (ci := 12) (v := .ref v335) (C := RX12) (T := TX12) (N := 51) hx hb hg inG12 hown hK hP hb_13.1 hM_41 rfl 24 (by decide) (hN.use (Cond.fieldLinkNest RX13 118 RX12 "bears" "[I" RX13) 33 rfl rfl) (fun _ h9 => h9) hv335 dX13_bear_130 ?_
                      refine lv_iload hx hb dX13_bear_133 (lv_at hl 0 rfl) ?_
                      obtain ⟨f336, hM336⟩ := hW.open_14 hc335
                      refine pg_iald hx hb hK hP hc335.1 0 hM336 rfl (inbN v5w36 24 (by omega) (by omega)) dX13_bear_135 ?_
                      refine lv_topi (fun f_337 ef_337 => ?_)
                      refine lv_icmp_ge (tgt := 143) hx hb dX13_bear_136 (by decide) (fun c_338 => ?_) (fun c_338 => ?_)
                      · have hz := rfl (a := 0)
                        refine lv_iconst (v := 0) hx hb dX13_bear_143 (by decide) ?_
                        refine lv_istore (lv' := [(6, .int 0), (5, .int (nI v5w36)), (4, .ref b11), (0, .ref za), (1, .int k1), (2, .int k2), (3, .int k3)]) hx hb dX13_bear_144 hl (by decide) rfl (fun ls hl => ?_)
                        refine lv_aload hx hb dX13_bear_146 (lv_at hl 2 rfl) ?_
                        obtain ⟨v339, hv339, hc339⟩ : ∃ v : Nat, fs14[21]? = some (.ref v : Value) ∧ isk K L v 14 24 := hl14 21 (by decide)
                        refine pg_getN (D := D) (ci := 12) (v := .ref v339) (C := RX12) (T := TX12) (N := 51) hx hb hg inG12 hown hK hP hb_13.1 hM_41 rfl 21 (by decide) (hN.use (Cond.fieldLinkNest RX13 112 RX12 "begin" "[I" RX13) 30 rfl rfl) (fun _ h9 => h9) hv339 dX13_bear_148 ?_
                        refine lv_iload hx hb dX13_bear_151 (lv_at hl 1 rfl) ?_
                        obtain ⟨f340, hM340⟩ := hW.open_14 hc339
                        refine pg_iald hx hb hK hP hc339.1 0 hM340 rfl (inbN v5w36 24 (by omega) (by omega)) dX13_bear_153 ?_
                        refine lv_topi (fun f_341 ef_341 => ?_)
                        refine lv_iload_n hx hb dX13_bear_154 rfl (lv_at hl 5 rfl) ?_
                        refine lv_icmp_le (tgt := 185) hx hb dX13_bear_155 (by decide) (fun c_342 => ?_) (fun c_342 => ?_)
                        · have hz := rfl (a := 0)
                          refine lv_iconst (v := 0) hx hb dX13_bear_185 (by decide) ?_
                          refine lv_istore (lv' := [(7, .int 0), (6, .int 0), (5, .int (nI v5w36)), (4, .ref b11), (0, .ref za), (1, .int k1), (2, .int k2), (3, .int k3)]) hx hb dX13_bear_186 hl (by decide) rfl (fun ls hl => ?_)
                          refine lv_iload hx hb dX13_bear_188 (lv_at hl 1 rfl) ?_
                          refine lv_if_ne (tgt := 201) hx hb dX13_bear_190 (by decide) (fun c_343 => absurd c_343 (by decide)) (fun _ => ?_)
                          refine lv_iload hx hb dX13_bear_193 (lv_at hl 0 rfl) ?_
                          refine lv_if_ne (tgt := 201) hx hb dX13_bear_195 (by decide) (fun c_344 => absurd c_344 (by decide)) (fun _ => ?_)
                          refine lv_goto (tgt := 276) hx hb dX13_bear_198 (by decide) ?_
                          refine lv_iinc (v := (nI (v5w36 + 1))) (lv' := [(5, .int (nI (v5w36 + 1))), (7, .int 0), (6, .int 0), (4, .ref b11), (0, .ref za), (1, .int k1), (2, .int k2), (3, .int k3)]) hx hb dX13_bear_276 hl (k := 2) rfl (nI_1 v5w36) (by decide) rfl (fun ls hl => ?_)
                          refine lv_goto (tgt := 82) hx hb dX13_bear_279 (by decide) ?_
                          exact ih_34 (v5w36 + 1) zgw36 M_39 H_331 _ _ (by omega) hM_41 (by omega) (by omega) hW hF hP hD hS (lv_sub hl [0, 3, 4, 5, 6, 7] rfl)
                        · have hz := rfl (a := 0)
                          refine lv_aload hx hb dX13_bear_158 (lv_at hl 2 rfl) ?_
                          obtain ⟨v345, hv345, hc345⟩ : ∃ v : Nat, fs14[26]? = some (.ref v : Value) ∧ isk K L v 16 24 := hl14 26 (by decide)
                          refine pg_getN (D := D) (ci := 12) (v := .ref v345) (C := RX12) (T := TX12) (N := 51) hx hb hg inG12 hown hK hP hb_13.1 hM_41 rfl 26 (by decide) (hN.use (Cond.fieldLinkNest RX13 124 RX12 "word" "[Z" RX13) 35 rfl rfl) (fun _ h9 => h9) hv345 dX13_bear_160 ?_
                          refine lv_iload hx hb dX13_bear_163 (lv_at hl 1 rfl) ?_
                          obtain ⟨f346, hM346, hf346⟩ := hW.open_16 hc345
                          have hi_347 : vp_in (nI v5w36) 24 := (inbN v5w36 24 (by omega) (by omega))
                          refine pg_zald hx hb hK hP hc345.1 2 hM346 rfl hi_347 dX13_bear_165 ?_
                          rcases hf346 _ (vp_lt hi_347) with ec_348 | ec_348
                          · rw [ec_348]
                            refine lv_if_eq (tgt := 185) hx hb dX13_bear_166 (by decide) (fun _ => ?_) (fun c_349 => absurd c_349 (by decide))
                            refine lv_iconst (v := 0) hx hb dX13_bear_185 (by decide) ?_
                            refine lv_istore (lv' := [(7, .int 0), (6, .int 0), (5, .int (nI v5w36)), (4, .ref b11), (0, .ref za), (1, .int k1), (2, .int k2), (3, .int k3)]) hx hb dX13_bear_186 hl (by decide) rfl (fun ls hl => ?_)
                            refine lv_iload hx hb dX13_bear_188 (lv_at hl 1 rfl) ?_
                            refine lv_if_ne (tgt := 201) hx hb dX13_bear_190 (by decide) (fun c_350 => absurd c_350 (by decide)) (fun _ => ?_)
                            refine lv_iload hx hb dX13_bear_193 (lv_at hl 0 rfl) ?_
                            refine lv_if_ne (tgt := 201) hx hb dX13_bear_195 (by decide) (fun c_351 => absurd c_351 (by decide)) (fun _ => ?_)
                            refine lv_goto (tgt := 276) hx hb dX13_bear_198 (by decide) ?_
                            refine lv_iinc (v := (nI (v5w36 + 1))) (lv' := [(5, .int (nI (v5w36 + 1))), (7, .int 0), (6, .int 0), (4, .ref b11), (0, .ref za), (1, .int k1), (2, .int k2), (3, .int k3)]) hx hb dX13_bear_276 hl (k := 2) rfl (nI_1 v5w36) (by decide) rfl (fun ls hl => ?_)
                            refine lv_goto (tgt := 82) hx hb dX13_bear_279 (by decide) ?_
                            exact ih_34 (v5w36 + 1) zgw36 M_39 H_331 _ _ (by omega) hM_41 (by omega) (by omega) hW hF hP hD hS (lv_sub hl [0, 3, 4, 5, 6, 7] rfl)
                          · rw [ec_348]
                            refine lv_if_eq (tgt := 185) hx hb dX13_bear_166 (by decide) (fun c_352 => absurd c_352 (by decide)) (fun _ => ?_)
                            refine lv_aload hx hb dX13_bear_169 (lv_at hl 2 rfl) ?_
                            refine pg_getN (D := D) (ci := 12) (v := .ref v109) (C := RX12) (T := TX12) (N := 51) hx hb hg inG12 hown hK hP hb_13.1 hM_41 rfl 22 (by decide) (hN.use (Cond.fieldLinkNest RX13 95 RX12 "ended" "[I" RX13) 31 rfl rfl) (fun _ h9 => h9) hv109 dX13_bear_171 ?_
                            refine lv_iload hx hb dX13_bear_174 (lv_at hl 1 rfl) ?_
                            refine pg_iald hx hb hK hP hc109.1 0 hM110 rfl (inbN v5w36 24 (by omega) (by omega)) dX13_bear_176 ?_
                            refine lv_topi (fun f_353 ef_353 => ?_)
                            refine lv_iconst (v := (-1)) hx hb dX13_bear_177 (by decide) ?_
                            refine lv_icmp_ne (tgt := 185) hx hb dX13_bear_178 (by decide) (fun c_354 => ?_) (fun c_354 => ?_)
                            · have hz := rfl (a := 0)
                              refine lv_iconst (v := 0) hx hb dX13_bear_185 (by decide) ?_
                              refine lv_istore (lv' := [(7, .int 0), (6, .int 0), (5, .int (nI v5w36)), (4, .ref b11), (0, .ref za), (1, .int k1), (2, .int k2), (3, .int k3)]) hx hb dX13_bear_186 hl (by decide) rfl (fun ls hl => ?_)
                              refine lv_iload hx hb dX13_bear_188 (lv_at hl 1 rfl) ?_
                              refine lv_if_ne (tgt := 201) hx hb dX13_bear_190 (by decide) (fun c_355 => absurd c_355 (by decide)) (fun _ => ?_)
                              refine lv_iload hx hb dX13_bear_193 (lv_at hl 0 rfl) ?_
                              refine lv_if_ne (tgt := 201) hx hb dX13_bear_195 (by decide) (fun c_356 => absurd c_356 (by decide)) (fun _ => ?_)
                              refine lv_goto (tgt := 276) hx hb dX13_bear_198 (by decide) ?_
                              refine lv_iinc (v := (nI (v5w36 + 1))) (lv' := [(5, .int (nI (v5w36 + 1))), (7, .int 0), (6, .int 0), (4, .ref b11), (0, .ref za), (1, .int k1), (2, .int k2), (3, .int k3)]) hx hb dX13_bear_276 hl (k := 2) rfl (nI_1 v5w36) (by decide) rfl (fun ls hl => ?_)
                              refine lv_goto (tgt := 82) hx hb dX13_bear_279 (by decide) ?_
                              exact ih_34 (v5w36 + 1) zgw36 M_39 H_331 _ _ (by omega) hM_41 (by omega) (by omega) hW hF hP hD hS (lv_sub hl [0, 3, 4, 5, 6, 7] rfl)
                            · have hz := rfl (a := 0)
                              refine lv_iconst (v := 1) hx hb dX13_bear_181 (by decide) ?_
                              refine lv_goto (tgt := 186) hx hb dX13_bear_182 (by decide) ?_
                              refine lv_istore (lv' := [(7, .int 1), (6, .int 0), (5, .int (nI v5w36)), (4, .ref b11), (0, .ref za), (1, .int k1), (2, .int k2), (3, .int k3)]) hx hb dX13_bear_186 hl (by decide) rfl (fun ls hl => ?_)
                              refine lv_iload hx hb dX13_bear_188 (lv_at hl 1 rfl) ?_
                              refine lv_if_ne (tgt := 201) hx hb dX13_bear_190 (by decide) (fun c_357 => absurd c_357 (by decide)) (fun _ => ?_)
                              refine lv_iload hx hb dX13_bear_193 (lv_at hl 0 rfl) ?_
                              refine lv_if_ne (tgt := 201) hx hb dX13_bear_195 (by decide) (fun _ => ?_) (fun c_358 => absurd c_358 (by decide))
                              refine lv_aload_n hx hb dX13_bear_201 rfl (lv_at hl 4 rfl) ?_
                              refine va_get (D := D) (ci := 13) (v := .ref z11) (C := RX13) (T := TX13) (N := 20) hx hb hg inG13 hown hK hP 0 rfl rfl 11 (by decide) (hg _ wd_764) (fun _ h9 => h9) rfl dX13_bear_202 ?_
                              refine lv_aload_n hx hb dX13_bear_205 rfl (lv_at hl 4 rfl) ?_
                              refine va_get (D := D) (ci := 13) (v := .int (nI zgw36)) (C := RX13) (T := TX13) (N := 20) hx hb hg inG13 hown hK hP 0 rfl rfl 16 (by decide) (hg _ wd_769) (fun _ h9 => h9) rfl dX13_bear_206 ?_
                              refine lv_iload hx hb dX13_bear_209 (lv_at hl 2 rfl) ?_
                              obtain ⟨f359, hM359, hf359⟩ := hW.open_32 i11
                              refine pg_iast hx hb hK hP hD hS i11.1 0 hM359 rfl (inbN zgw36 24 (by omega) (by omega)) dX13_bear_211 (fun H_360 locs hP hD hS => ?_)
                              obtain ⟨M_361, eM_361⟩ : ∃ M1 : Hp, M1 = va_up M_39 z11 (.inl (cy 14, 24, .inl (upd f359 ((nI zgw36) : Int32).toNatClampNeg (nI v5w36)))) := ⟨_, rfl⟩
                              have hP : va_P D vwCl ([(za, .inr (13, [.int 0, .ref z1, .int (nI z2), .int (nI z3), .int z4, .int z5, .ref z6, .ref z7, .ref z8, .ref z9, .int (nI z10), .ref z11, .ref z12, .ref z13, .ref z14, .ref z15, .int (nI zgw36), .ref z17, .int z18, .ref z19]))] ++ va_pl L M_361) H_360 := by rw [eM_361]; exact hP
                              have hD : va_D A ([(za, .inr (13, [.int 0, .ref z1, .int (nI z2), .int (nI z3), .int z4, .int z5, .ref z6, .ref z7, .ref z8, .ref z9, .int (nI z10), .ref z11, .ref z12, .ref z13, .ref z14, .ref z15, .int (nI zgw36), .ref z17, .int z18, .ref z19]))] ++ va_pl L M_361) := by rw [eM_361]; exact hD
                              have hW : WOM cy K L M_361 := by rw [eM_361]; exact hW.up_32 i11 ⟨_, rfl, (updP (P := fun z => ∃ c : Nat, c < 24 ∧ z = nI c) hf359 ⟨v5w36, by omega, rfl⟩)⟩
                              have hF : fr K L [14, 15, 32] M M_361 := by rw [eM_361]; exact hF.up i11 (by decide)
                              have hM_362 : M_361 z11 = .inl (cy 14, 24, .inl (upd f359 ((nI zgw36) : Int32).toNatClampNeg (nI v5w36))) := by rw [eM_361]; exact va_up_self _ _ _
                              have hM_363 : M_361 b11 = .inr (12, fs14) := by rw [eM_361, va_up_ne _ _ (hb_13.neT i11 (by decide))]; exact hM_41
                              have hM_364 : M_361 v109 = .inl (cy 14, 24, .inl (f110)) := by rw [eM_361, va_up_ne _ _ (hc109.neT i11 (by decide))]; exact hM110
                              have hM_365 : M_361 v335 = .inl (cy 14, 24, .inl (f336)) := by rw [eM_361, va_up_ne _ _ (hc335.neT i11 (by decide))]; exact hM336
                              have hM_366 : M_361 v339 = .inl (cy 14, 24, .inl (f340)) := by rw [eM_361, va_up_ne _ _ (hc339.neT i11 (by decide))]; exact hM340
                              have hM_367 : M_361 v345 = .inl (cy 16, 24, .inl (f346)) := by rw [eM_361, va_up_ne _ _ (hc345.neT i11 (by decide))]; exact hM346
                              have hf_369 : ∀ j, j < 24 → ∃ c : Nat, c < 24 ∧ (upd f359 ((nI zgw36) : Int32).toNatClampNeg (nI v5w36)) j = nI c := (updP (P := fun z => ∃ c : Nat, c < 24 ∧ z = nI c) hf359 ⟨v5w36, by omega, rfl⟩)
                              obtain ⟨f_368, ef_368⟩ : ∃ f : Nat → Int32, f = upd f359 ((nI zgw36) : Int32).toNatClampNeg (nI v5w36) := ⟨_, rfl⟩
                              rw [← ef_368] at hM_362 hf_369
                              clear ef_368
                              refine lv_aload_n hx hb dX13_bear_212 rfl (lv_at hl 4 rfl) ?_
                              refine va_get (D := D) (ci := 13) (v := .ref z12) (C := RX13) (T := TX13) (N := 20) hx hb hg inG13 hown hK hP 0 rfl rfl 12 (by decide) (hg _ wd_763) (fun _ h9 => h9) rfl dX13_bear_213 ?_
                              refine lv_aload_n hx hb dX13_bear_216 rfl (lv_at hl 4 rfl) ?_
                              refine va_get (D := D) (ci := 13) (v := .int (nI zgw36)) (C := RX13) (T := TX13) (N := 20) hx hb hg inG13 hown hK hP 0 rfl rfl 16 (by decide) (hg _ wd_769) (fun _ h9 => h9) rfl dX13_bear_217 ?_
                              refine lv_aload hx hb dX13_bear_220 (lv_at hl 3 rfl) ?_
                              refine lv_iload hx hb dX13_bear_222 (lv_at hl 1 rfl) ?_
                              refine lv_if_eq (tgt := 236) hx hb dX13_bear_224 (by decide) (fun _ => ?_) (fun c_370 => absurd c_370 (by decide))
                              refine lv_aload hx hb dX13_bear_236 (lv_at hl 3 rfl) ?_
                              refine pg_getN (D := D) (ci := 12) (v := .int (nI v15)) (C := RX12) (T := TX12) (N := 51) hx hb hg inG12 hown hK hP hb_13.1 hM_363 rfl 11 (by decide) (hN.use (Cond.fieldLinkNest RX13 142 RX12 "rules" "I" RX13) 20 rfl rfl) (fun _ h9 => h9) hv15 dX13_bear_238 ?_
                              refine lv_iconst (v := 1) hx hb dX13_bear_241 (by decide) ?_
                              refine lv_isub hx hb dX13_bear_242 ?_
                              refine lv_topi (fun f_371 ef_371 => ?_)
                              obtain rfl : f_371 = (nI (v15 - 1)) := ef_371.trans (nI_prd (by omega))
                              refine lv_iconst (v := 3) hx hb dX13_bear_243 (by decide) ?_
                              refine lv_aload hx hb dX13_bear_244 (lv_at hl 3 rfl) ?_
                              obtain ⟨v372, hv372, hc372⟩ : ∃ v : Nat, fs14[20]? = some (.ref v : Value) ∧ isk K L v 31 24 := hl14 20 (by decide)
                              refine pg_getN (D := D) (ci := 12) (v := .ref v372) (C := RX12) (T := TX12) (N := 51) hx hb hg inG12 hown hK hP hb_13.1 hM_363 rfl 20 (by decide) (hN.use (Cond.fieldLinkNest RX13 110 RX12 "where" "[I" RX13) 29 rfl rfl) (fun _ h9 => h9) hv372 dX13_bear_246 ?_
                              refine lv_iload hx hb dX13_bear_249 (lv_at hl 2 rfl) ?_
                              obtain ⟨f373, hM373, hf373⟩ := hW.open_31 hc372
                              have hi_374 : vp_in (nI v5w36) 24 := (inbN v5w36 24 (by omega) (by omega))
                              refine pg_iald hx hb hK hP hc372.1 0 hM373 rfl hi_374 dX13_bear_251 ?_
                              have hp_375 := hf373 _ (vp_lt hi_374)
                              obtain ⟨c_376, hc_377, ec_378⟩ := hp_375
                              rw [ec_378]
                              have hPc : va_P D vwCl ([] ++ va_pl L M_361) H_360 := hP.part (cx := []) [] rfl
                              have hDc : va_D A ([] ++ va_pl L M_361) := hD.part (cx := []) [] (by decide) rfl
                              have hFc : ∀ q, va_A ([] ++ va_pl L M_361) H_360.size q → A q := pg_free hDc hS hA
                              refine va_calli (va_runV (As := [.int (nI (v15 - 1)), .int 3, .int (nI c_376)]) (rest := [.int (nI zgw36), .ref z12]) ⟨hx, hb, hml, hown, hg⟩ (r_X12_term l D cy K L M_361 H_360.size b11 (v15 - 1) 3 c_376  hW hb_13 (by omega) (by omega) hc_377) (cwV 3 hg (gV wd_770 wd_771 wd_772 wd_737 wd_773) rfl rfl rfl (by decide +kernel) ⟨(Nat.le_trans (Nat.le_of_ble_eq_true rfl) hRf), (Nat.le_trans (Nat.le_of_ble_eq_true rfl) hRl)⟩) ⟨PG.blind, pg_recv hK hP hb_13.1 hM_363 rfl, fun U hU hW => ⟨rfl, PG.at hPc hK hDc hN hU hW⟩⟩ rfl rfl hl.1 rfl (lv_room (Nat.le_of_ble_eq_true rfl)) dX13_bear_252 ⟨(Nat.le_trans (Nat.le_of_ble_eq_true rfl) hRc), (Nat.le_trans (Nat.le_of_ble_eq_true rfl) hRs)⟩) hS (fun q _ h => hFc q h) hFc (fun r_380 M_381 t H_379 locs ht hvm hw hB hz1 hk1 hS => ?_)
                              have hp_382 := hw
                              obtain ⟨hP1, hD1⟩ := hB
                              rw [ht] at hP1
                              obtain ⟨hP, hD⟩ := va_joinP (X := [(za, .inr (13, [.int 0, .ref z1, .int (nI z2), .int (nI z3), .int z4, .int z5, .ref z6, .ref z7, .ref z8, .ref z9, .int (nI z10), .ref z11, .ref z12, .ref z13, .ref z14, .ref z15, .int (nI zgw36), .ref z17, .int z18, .ref z19]))]) (cx := []) (wr := [(za, .inr (13, [.int 0, .ref z1, .int (nI z2), .int (nI z3), .int z4, .int z5, .ref z6, .ref z7, .ref z8, .ref z9, .int (nI z10), .ref z11, .ref z12, .ref z13, .ref z14, .ref z15, .int (nI zgw36), .ref z17, .int z18, .ref z19]))]) (rx := []) (pl := va_pl L M_361) (pl1 := va_pl L M_361) hP hD [] [0] rfl rfl (by decide) (by decide) hk1 hFc hP1 hD1
                              have hP : va_P D vwCl ([(za, .inr (13, [.int 0, .ref z1, .int (nI z2), .int (nI z3), .int z4, .int z5, .ref z6, .ref z7, .ref z8, .ref z9, .int (nI z10), .ref z11, .ref z12, .ref z13, .ref z14, .ref z15, .int (nI zgw36), .ref z17, .int z18, .ref z19]))] ++ va_pl L M_361) H_379 := hP
                              have hD : va_D A ([(za, .inr (13, [.int 0, .ref z1, .int (nI z2), .int (nI z3), .int z4, .int z5, .ref z6, .ref z7, .ref z8, .ref z9, .int (nI z10), .ref z11, .ref z12, .ref z13, .ref z14, .ref z15, .int (nI zgw36), .ref z17, .int z18, .ref z19]))] ++ va_pl L M_361) := hD
                              obtain ⟨f383, hM383⟩ := hW.open_14 i12
                              refine pg_iast hx hb hK hP hD hS i12.1 0 hM383 rfl (inbN zgw36 24 (by omega) (by omega)) dX13_bear_255 (fun H_384 locs hP hD hS => ?_)
                              obtain ⟨M_385, eM_385⟩ : ∃ M1 : Hp, M1 = va_up M_361 z12 (.inl (cy 14, 24, .inl (upd f383 ((nI zgw36) : Int32).toNatClampNeg r_380))) := ⟨_, rfl⟩
                              have hP : va_P D vwCl ([(za, .inr (13, [.int 0, .ref z1, .int (nI z2), .int (nI z3), .int z4, .int z5, .ref z6, .ref z7, .ref z8, .ref z9, .int (nI z10), .ref z11, .ref z12, .ref z13, .ref z14, .ref z15, .int (nI zgw36), .ref z17, .int z18, .ref z19]))] ++ va_pl L M_385) H_384 := by rw [eM_385]; exact hP
                              have hD : va_D A ([(za, .inr (13, [.int 0, .ref z1, .int (nI z2), .int (nI z3), .int z4, .int z5, .ref z6, .ref z7, .ref z8, .ref z9, .int (nI z10), .ref z11, .ref z12, .ref z13, .ref z14, .ref z15, .int (nI zgw36), .ref z17, .int z18, .ref z19]))] ++ va_pl L M_385) := by rw [eM_385]; exact hD
                              have hW : WOM cy K L M_385 := by rw [eM_385]; exact hW.up_14 i12 ⟨_, rfl⟩
                              have hF : fr K L [14, 15, 32] M M_385 := by rw [eM_385]; exact hF.up i12 (by decide)
                              have hM_386 : M_385 z12 = .inl (cy 14, 24, .inl (upd f383 ((nI zgw36) : Int32).toNatClampNeg r_380)) := by rw [eM_385]; exact va_up_self _ _ _
                              have hM_387 : M_385 z11 = .inl (cy 14, 24, .inl (f_368)) := by rw [eM_385, va_up_ne _ _ (i11.neT i12 (by decide))]; exact hM_362
                              have hM_388 : M_385 b11 = .inr (12, fs14) := by rw [eM_385, va_up_ne _ _ (hb_13.neT i12 (by decide))]; exact hM_363
                              have hM_389 : M_385 v109 = .inl (cy 14, 24, .inl (f110)) := by rw [eM_385, va_up_ne _ _ (hc109.neT i12 (by decide))]; exact hM_364
                              have hM_390 : M_385 v345 = .inl (cy 16, 24, .inl (f346)) := by rw [eM_385, va_up_ne _ _ (hc345.neT i12 (by decide))]; exact hM_367
                              have hM_391 : M_385 v372 = .inl (cy 14, 24, .inl (f373)) := by rw [eM_385, va_up_ne _ _ (hc372.neT i12 (by decide))]; exact hM373
                              obtain ⟨f_392, ef_392⟩ : ∃ f : Nat → Int32, f = upd f383 ((nI zgw36) : Int32).toNatClampNeg r_380 := ⟨_, rfl⟩
                              rw [← ef_392] at hM_386
                              clear ef_392
                              refine lv_aload_n hx hb dX13_bear_256 rfl (lv_at hl 4 rfl) ?_
                              refine va_get (D := D) (ci := 13) (v := .ref z13) (C := RX13) (T := TX13) (N := 20) hx hb hg inG13 hown hK hP 0 rfl rfl 13 (by decide) (hg _ wd_789) (fun _ h9 => h9) rfl dX13_bear_257 ?_
                              refine lv_aload_n hx hb dX13_bear_260 rfl (lv_at hl 4 rfl) ?_
                              refine va_get (D := D) (ci := 13) (v := .int (nI zgw36)) (C := RX13) (T := TX13) (N := 20) hx hb hg inG13 hown hK hP 0 rfl rfl 16 (by decide) (hg _ wd_769) (fun _ h9 => h9) rfl dX13_bear_261 ?_
                              refine lv_lconst (v := 0) hx hb dX13_bear_264 (by decide) ?_
                              obtain ⟨f393, hM393⟩ := hW.open_15 i13
                              refine pg_last hx hb hK hP hD hS i13.1 1 hM393 rfl (inbN zgw36 24 (by omega) (by omega)) dX13_bear_265 (fun H_394 locs hP hD hS => ?_)
                              obtain ⟨M_395, eM_395⟩ : ∃ M1 : Hp, M1 = va_up M_385 z13 (.inl (cy 15, 24, .inr (.inl (vp_updL f393 ((nI zgw36) : Int32).toNatClampNeg 0)))) := ⟨_, rfl⟩
                              have hP : va_P D vwCl ([(za, .inr (13, [.int 0, .ref z1, .int (nI z2), .int (nI z3), .int z4, .int z5, .ref z6, .ref z7, .ref z8, .ref z9, .int (nI z10), .ref z11, .ref z12, .ref z13, .ref z14, .ref z15, .int (nI zgw36), .ref z17, .int z18, .ref z19]))] ++ va_pl L M_395) H_394 := by rw [eM_395]; exact hP
                              have hD : va_D A ([(za, .inr (13, [.int 0, .ref z1, .int (nI z2), .int (nI z3), .int z4, .int z5, .ref z6, .ref z7, .ref z8, .ref z9, .int (nI z10), .ref z11, .ref z12, .ref z13, .ref z14, .ref z15, .int (nI zgw36), .ref z17, .int z18, .ref z19]))] ++ va_pl L M_395) := by rw [eM_395]; exact hD
                              have hW : WOM cy K L M_395 := by rw [eM_395]; exact hW.up_15 i13 ⟨_, rfl⟩
                              have hF : fr K L [14, 15, 32] M M_395 := by rw [eM_395]; exact hF.up i13 (by decide)
                              have hM_396 : M_395 z13 = .inl (cy 15, 24, .inr (.inl (vp_updL f393 ((nI zgw36) : Int32).toNatClampNeg 0))) := by rw [eM_395]; exact va_up_self _ _ _
                              have hM_397 : M_395 z12 = .inl (cy 14, 24, .inl (f_392)) := by rw [eM_395, va_up_ne _ _ (i12.neT i13 (by decide))]; exact hM_386
                              have hM_398 : M_395 z11 = .inl (cy 14, 24, .inl (f_368)) := by rw [eM_395, va_up_ne _ _ (i11.neT i13 (by decide))]; exact hM_387
                              have hM_399 : M_395 b11 = .inr (12, fs14) := by rw [eM_395, va_up_ne _ _ (hb_13.neT i13 (by decide))]; exact hM_388
                              have hM_400 : M_395 v109 = .inl (cy 14, 24, .inl (f110)) := by rw [eM_395, va_up_ne _ _ (hc109.neT i13 (by decide))]; exact hM_389
                              have hM_401 : M_395 v345 = .inl (cy 16, 24, .inl (f346)) := by rw [eM_395, va_up_ne _ _ (hc345.neT i13 (by decide))]; exact hM_390
                              have hM_402 : M_395 v372 = .inl (cy 14, 24, .inl (f373)) := by rw [eM_395, va_up_ne _ _ (hc372.neT i13 (by decide))]; exact hM_391
                              obtain ⟨f_403, ef_403⟩ : ∃ f : Nat → Int64, f = vp_updL f393 ((nI zgw36) : Int32).toNatClampNeg 0 := ⟨_, rfl⟩
                              rw [← ef_403] at hM_396
                              clear ef_403
                              refine lv_aload_n hx hb dX13_bear_266 rfl (lv_at hl 4 rfl) ?_
                              refine lv_dup hx hb dX13_bear_267 rfl ?_
                              refine va_get (D := D) (ci := 13) (v := .int (nI zgw36)) (C := RX13) (T := TX13) (N := 20) hx hb hg inG13 hown hK hP 0 rfl rfl 16 (by decide) (hg _ wd_769) (fun _ h9 => h9) rfl dX13_bear_268 ?_
                              refine lv_iconst (v := 1) hx hb dX13_bear_271 (by decide) ?_
                              refine lv_iadd hx hb dX13_bear_272 ?_
                              refine lv_topi (fun f_404 ef_404 => ?_)
                              obtain rfl : f_404 = (nI (zgw36 + 1)) := ef_404.trans (nI_add zgw36 1)
                              refine va_put (D := D) (ci := 13) (v := .int (nI (zgw36 + 1))) (ty := .int) (C := RX13) (T := TX13) (N := 20) hx hb hg inG13 tyX13 tyX13_ok nmX13 hown hK hP hD hS 0 rfl rfl 16 (by decide) (hg _ wd_769) (fun _ h9 => h9) rfl (by decide +kernel) rfl rfl (Nat.le_of_ble_eq_true rfl) dX13_bear_273 (fun H_405 locs hP hD hS => ?_)
                              have hP : va_P D vwCl ([(za, .inr (13, [.int 0, .ref z1, .int (nI z2), .int (nI z3), .int z4, .int z5, .ref z6, .ref z7, .ref z8, .ref z9, .int (nI z10), .ref z11, .ref z12, .ref z13, .ref z14, .ref z15, .int (nI (zgw36 + 1)), .ref z17, .int z18, .ref z19]))] ++ va_pl L M_395) H_405 := hP
                              have hD : va_D A ([(za, .inr (13, [.int 0, .ref z1, .int (nI z2), .int (nI z3), .int z4, .int z5, .ref z6, .ref z7, .ref z8, .ref z9, .int (nI z10), .ref z11, .ref z12, .ref z13, .ref z14, .ref z15, .int (nI (zgw36 + 1)), .ref z17, .int z18, .ref z19]))] ++ va_pl L M_395) := hD
                              refine lv_iinc (v := (nI (v5w36 + 1))) (lv' := [(5, .int (nI (v5w36 + 1))), (7, .int 1), (6, .int 0), (4, .ref b11), (0, .ref za), (1, .int k1), (2, .int k2), (3, .int k3)]) hx hb dX13_bear_276 hl (k := 2) rfl (nI_1 v5w36) (by decide) rfl (fun ls hl => ?_)
                              refine lv_goto (tgt := 82) hx hb dX13_bear_279 (by decide) ?_
                              exact ih_34 (v5w36 + 1) (zgw36 + 1) M_395 H_405 _ _ (by omega) hM_399 (by omega) (by omega) hW hF hP hD hS (lv_sub hl [0, 3, 4, 5, 6, 7] rfl)
                      · have hz := rfl (a := 0)
                        refine lv_iconst (v := 1) hx hb dX13_bear_139 (by decide) ?_
                        refine lv_goto (tgt := 144) hx hb dX13_bear_140 (by decide) ?_
                        refine lv_istore (lv' := [(6, .int 1), (5, .int (nI v5w36)), (4, .ref b11), (0, .ref za), (1, .int k1), (2, .int k2), (3, .int k3)]) hx hb dX13_bear_144 hl (by decide) rfl (fun ls hl => ?_)
                        refine lv_aload hx hb dX13_bear_146 (lv_at hl 2 rfl) ?_
                        obtain ⟨v406, hv406, hc406⟩ : ∃ v : Nat, fs14[21]? = some (.ref v : Value) ∧ isk K L v 14 24 := hl14 21 (by decide)
                        refine pg_getN (D := D) (ci := 12) (v := .ref v406) (C := RX12) (T := TX12) (N := 51) hx hb hg inG12 hown hK hP hb_13.1 hM_41 rfl 21 (by decide) (hN.use (Cond.fieldLinkNest RX13 112 RX12 "begin" "[I" RX13) 30 rfl rfl) (fun _ h9 => h9) hv406 dX13_bear_148 ?_
                        refine lv_iload hx hb dX13_bear_151 (lv_at hl 1 rfl) ?_
                        obtain ⟨f407, hM407⟩ := hW.open_14 hc406
                        refine pg_iald hx hb hK hP hc406.1 0 hM407 rfl (inbN v5w36 24 (by omega) (by omega)) dX13_bear_153 ?_
                        refine lv_topi (fun f_408 ef_408 => ?_)
                        refine lv_iload_n hx hb dX13_bear_154 rfl (lv_at hl 5 rfl) ?_
                        refine lv_icmp_le (tgt := 185) hx hb dX13_bear_155 (by decide) (fun c_409 => ?_) (fun c_409 => ?_)
                        · have hz := rfl (a := 0)
                          refine lv_iconst (v := 0) hx hb dX13_bear_185 (by decide) ?_
                          refine lv_istore (lv' := [(7, .int 0), (6, .int 1), (5, .int (nI v5w36)), (4, .ref b11), (0, .ref za), (1, .int k1), (2, .int k2), (3, .int k3)]) hx hb dX13_bear_186 hl (by decide) rfl (fun ls hl => ?_)
                          refine lv_iload hx hb dX13_bear_188 (lv_at hl 1 rfl) ?_
                          refine lv_if_ne (tgt := 201) hx hb dX13_bear_190 (by decide) (fun _ => ?_) (fun c_410 => absurd c_410 (by decide))
                          refine lv_aload_n hx hb dX13_bear_201 rfl (lv_at hl 4 rfl) ?_
                          refine va_get (D := D) (ci := 13) (v := .ref z11) (C := RX13) (T := TX13) (N := 20) hx hb hg inG13 hown hK hP 0 rfl rfl 11 (by decide) (hg _ wd_764) (fun _ h9 => h9) rfl dX13_bear_202 ?_
                          refine lv_aload_n hx hb dX13_bear_205 rfl (lv_at hl 4 rfl) ?_
                          refine va_get (D := D) (ci := 13) (v := .int (nI zgw36)) (C := RX13) (T := TX13) (N := 20) hx hb hg inG13 hown hK hP 0 rfl rfl 16 (by decide) (hg _ wd_769) (fun _ h9 => h9) rfl dX13_bear_206 ?_
                          refine lv_iload hx hb dX13_bear_209 (lv_at hl 2 rfl) ?_
                          obtain ⟨f411, hM411, hf411⟩ := hW.open_32 i11
                          refine pg_iast hx hb hK hP hD hS i11.1 0 hM411 rfl (inbN zgw36 24 (by omega) (by omega)) dX13_bear_211 (fun H_412 locs hP hD hS => ?_)
                          obtain ⟨M_413, eM_413⟩ : ∃ M1 : Hp, M1 = va_up M_39 z11 (.inl (cy 14, 24, .inl (upd f411 ((nI zgw36) : Int32).toNatClampNeg (nI v5w36)))) := ⟨_, rfl⟩
                          have hP : va_P D vwCl ([(za, .inr (13, [.int 0, .ref z1, .int (nI z2), .int (nI z3), .int z4, .int z5, .ref z6, .ref z7, .ref z8, .ref z9, .int (nI z10), .ref z11, .ref z12, .ref z13, .ref z14, .ref z15, .int (nI zgw36), .ref z17, .int z18, .ref z19]))] ++ va_pl L M_413) H_412 := by rw [eM_413]; exact hP
                          have hD : va_D A ([(za, .inr (13, [.int 0, .ref z1, .int (nI z2), .int (nI z3), .int z4, .int z5, .ref z6, .ref z7, .ref z8, .ref z9, .int (nI z10), .ref z11, .ref z12, .ref z13, .ref z14, .ref z15, .int (nI zgw36), .ref z17, .int z18, .ref z19]))] ++ va_pl L M_413) := by rw [eM_413]; exact hD
                          have hW : WOM cy K L M_413 := by rw [eM_413]; exact hW.up_32 i11 ⟨_, rfl, (updP (P := fun z => ∃ c : Nat, c < 24 ∧ z = nI c) hf411 ⟨v5w36, by omega, rfl⟩)⟩
                          have hF : fr K L [14, 15, 32] M M_413 := by rw [eM_413]; exact hF.up i11 (by decide)
                          have hM_414 : M_413 z11 = .inl (cy 14, 24, .inl (upd f411 ((nI zgw36) : Int32).toNatClampNeg (nI v5w36))) := by rw [eM_413]; exact va_up_self _ _ _
                          have hM_415 : M_413 b11 = .inr (12, fs14) := by rw [eM_413, va_up_ne _ _ (hb_13.neT i11 (by decide))]; exact hM_41
                          have hM_416 : M_413 v109 = .inl (cy 14, 24, .inl (f110)) := by rw [eM_413, va_up_ne _ _ (hc109.neT i11 (by decide))]; exact hM110
                          have hM_417 : M_413 v335 = .inl (cy 14, 24, .inl (f336)) := by rw [eM_413, va_up_ne _ _ (hc335.neT i11 (by decide))]; exact hM336
                          have hM_418 : M_413 v406 = .inl (cy 14, 24, .inl (f407)) := by rw [eM_413, va_up_ne _ _ (hc406.neT i11 (by decide))]; exact hM407
                          have hf_420 : ∀ j, j < 24 → ∃ c : Nat, c < 24 ∧ (upd f411 ((nI zgw36) : Int32).toNatClampNeg (nI v5w36)) j = nI c := (updP (P := fun z => ∃ c : Nat, c < 24 ∧ z = nI c) hf411 ⟨v5w36, by omega, rfl⟩)
                          obtain ⟨f_419, ef_419⟩ : ∃ f : Nat → Int32, f = upd f411 ((nI zgw36) : Int32).toNatClampNeg (nI v5w36) := ⟨_, rfl⟩
                          rw [← ef_419] at hM_414 hf_420
                          clear ef_419
                          refine lv_aload_n hx hb dX13_bear_212 rfl (lv_at hl 4 rfl) ?_
                          refine va_get (D := D) (ci := 13) (v := .ref z12) (C := RX13) (T := TX13) (N := 20) hx hb hg inG13 hown hK hP 0 rfl rfl 12 (by decide) (hg _ wd_763) (fun _ h9 => h9) rfl dX13_bear_213 ?_
                          refine lv_aload_n hx hb dX13_bear_216 rfl (lv_at hl 4 rfl) ?_
                          refine va_get (D := D) (ci := 13) (v := .int (nI zgw36)) (C := RX13) (T := TX13) (N := 20) hx hb hg inG13 hown hK hP 0 rfl rfl 16 (by decide) (hg _ wd_769) (fun _ h9 => h9) rfl dX13_bear_217 ?_
                          refine lv_aload hx hb dX13_bear_220 (lv_at hl 3 rfl) ?_
                          refine lv_iload hx hb dX13_bear_222 (lv_at hl 1 rfl) ?_
                          refine lv_if_eq (tgt := 236) hx hb dX13_bear_224 (by decide) (fun c_421 => absurd c_421 (by decide)) (fun _ => ?_)
                          refine lv_aload hx hb dX13_bear_227 (lv_at hl 3 rfl) ?_
                          refine lv_iload_n hx hb dX13_bear_229 rfl (lv_at hl 6 rfl) ?_
                          have hPc : va_P D vwCl ([] ++ va_pl L M_413) H_412 := hP.part (cx := []) [] rfl
                          have hDc : va_D A ([] ++ va_pl L M_413) := hD.part (cx := []) [] (by decide) rfl
                          have hFc : ∀ q, va_A ([] ++ va_pl L M_413) H_412.size q → A q := pg_free hDc hS hA
                          refine va_calli (va_runV (As := [.int k2]) (rest := [.ref b11, .int (nI zgw36), .ref z12]) ⟨hx, hb, hml, hown, hg⟩ (r_ruleOnP l D cy K L M_413 H_412.size b11 k2  hW hb_13 (RLD.of hW (RLI.fr hW0 hRL hF (by decide) (by decide)) hb_13 hM_415 hv15 (by omega) hc15 hv24 (Int32.not_lt.mp c_25))) (cwV 1 hg (gV wd_815 wd_816 wd_817 wd_737 wd_818) rfl rfl rfl (by decide +kernel) ⟨(Nat.le_trans (Nat.le_of_ble_eq_true rfl) hRf), (Nat.le_trans (Nat.le_of_ble_eq_true rfl) hRl)⟩) ⟨PG.blind, pg_recv hK hP hb_13.1 hM_415 rfl, fun U hU hW => ⟨rfl, PG.at hPc hK hDc hN hU hW⟩⟩ rfl rfl hl.1 rfl (lv_room (Nat.le_of_ble_eq_true rfl)) dX13_bear_230 ⟨(Nat.le_trans (Nat.le_of_ble_eq_true rfl) hRc), (Nat.le_trans (Nat.le_of_ble_eq_true rfl) hRs)⟩) hS (fun q _ h => hFc q h) hFc (fun r_423 M_424 t H_422 locs ht hvm hw hB hz1 hk1 hS => ?_)
                          have hp_425 := hw
                          obtain ⟨hP1, hD1⟩ := hB
                          rw [ht] at hP1
                          obtain ⟨hP, hD⟩ := va_joinP (X := [(za, .inr (13, [.int 0, .ref z1, .int (nI z2), .int (nI z3), .int z4, .int z5, .ref z6, .ref z7, .ref z8, .ref z9, .int (nI z10), .ref z11, .ref z12, .ref z13, .ref z14, .ref z15, .int (nI zgw36), .ref z17, .int z18, .ref z19]))]) (cx := []) (wr := [(za, .inr (13, [.int 0, .ref z1, .int (nI z2), .int (nI z3), .int z4, .int z5, .ref z6, .ref z7, .ref z8, .ref z9, .int (nI z10), .ref z11, .ref z12, .ref z13, .ref z14, .ref z15, .int (nI zgw36), .ref z17, .int z18, .ref z19]))]) (rx := []) (pl := va_pl L M_413) (pl1 := va_pl L M_413) hP hD [] [0] rfl rfl (by decide) (by decide) hk1 hFc hP1 hD1
                          have hP : va_P D vwCl ([(za, .inr (13, [.int 0, .ref z1, .int (nI z2), .int (nI z3), .int z4, .int z5, .ref z6, .ref z7, .ref z8, .ref z9, .int (nI z10), .ref z11, .ref z12, .ref z13, .ref z14, .ref z15, .int (nI zgw36), .ref z17, .int z18, .ref z19]))] ++ va_pl L M_413) H_422 := hP
                          have hD : va_D A ([(za, .inr (13, [.int 0, .ref z1, .int (nI z2), .int (nI z3), .int z4, .int z5, .ref z6, .ref z7, .ref z8, .ref z9, .int (nI z10), .ref z11, .ref z12, .ref z13, .ref z14, .ref z15, .int (nI zgw36), .ref z17, .int z18, .ref z19]))] ++ va_pl L M_413) := hD
                          obtain ⟨j_426, rfl, c_427⟩ := hp_425
                          refine lv_goto (tgt := 243) hx hb dX13_bear_233 (by decide) ?_
                          refine lv_iconst (v := 3) hx hb dX13_bear_243 (by decide) ?_
                          refine lv_aload hx hb dX13_bear_244 (lv_at hl 3 rfl) ?_
                          obtain ⟨v428, hv428, hc428⟩ : ∃ v : Nat, fs14[20]? = some (.ref v : Value) ∧ isk K L v 31 24 := hl14 20 (by decide)
                          refine pg_getN (D := D) (ci := 12) (v := .ref v428) (C := RX12) (T := TX12) (N := 51) hx hb hg inG12 hown hK hP hb_13.1 hM_415 rfl 20 (by decide) (hN.use (Cond.fieldLinkNest RX13 110 RX12 "where" "[I" RX13) 29 rfl rfl) (fun _ h9 => h9) hv428 dX13_bear_246 ?_
                          refine lv_iload hx hb dX13_bear_249 (lv_at hl 2 rfl) ?_
                          obtain ⟨f429, hM429, hf429⟩ := hW.open_31 hc428
                          have hi_430 : vp_in (nI v5w36) 24 := (inbN v5w36 24 (by omega) (by omega))
                          refine pg_iald hx hb hK hP hc428.1 0 hM429 rfl hi_430 dX13_bear_251 ?_
                          have hp_431 := hf429 _ (vp_lt hi_430)
                          obtain ⟨c_432, hc_433, ec_434⟩ := hp_431
                          rw [ec_434]
                          have hPc : va_P D vwCl ([] ++ va_pl L M_413) H_422 := hP.part (cx := []) [] rfl
                          have hDc : va_D A ([] ++ va_pl L M_413) := hD.part (cx := []) [] (by decide) rfl
                          have hFc : ∀ q, va_A ([] ++ va_pl L M_413) H_422.size q → A q := pg_free hDc hS hA
                          refine va_calli (va_runV (As := [.int (nI j_426), .int 3, .int (nI c_432)]) (rest := [.int (nI zgw36), .ref z12]) ⟨hx, hb, hml, hown, hg⟩ (r_X12_term l D cy K L M_413 H_422.size b11 j_426 3 c_432  hW hb_13 c_427 (by omega) hc_433) (cwV 3 hg (gV wd_770 wd_771 wd_772 wd_737 wd_773) rfl rfl rfl (by decide +kernel) ⟨(Nat.le_trans (Nat.le_of_ble_eq_true rfl) hRf), (Nat.le_trans (Nat.le_of_ble_eq_true rfl) hRl)⟩) ⟨PG.blind, pg_recv hK hP hb_13.1 hM_415 rfl, fun U hU hW => ⟨rfl, PG.at hPc hK hDc hN hU hW⟩⟩ rfl rfl hl.1 rfl (lv_room (Nat.le_of_ble_eq_true rfl)) dX13_bear_252 ⟨(Nat.le_trans (Nat.le_of_ble_eq_true rfl) hRc), (Nat.le_trans (Nat.le_of_ble_eq_true rfl) hRs)⟩) hS (fun q _ h => hFc q h) hFc (fun r_436 M_437 t H_435 locs ht hvm hw hB hz1 hk1 hS => ?_)
                          have hp_438 := hw
                          obtain ⟨hP1, hD1⟩ := hB
                          rw [ht] at hP1
                          obtain ⟨hP, hD⟩ := va_joinP (X := [(za, .inr (13, [.int 0, .ref z1, .int (nI z2), .int (nI z3), .int z4, .int z5, .ref z6, .ref z7, .ref z8, .ref z9, .int (nI z10), .ref z11, .ref z12, .ref z13, .ref z14, .ref z15, .int (nI zgw36), .ref z17, .int z18, .ref z19]))]) (cx := []) (wr := [(za, .inr (13, [.int 0, .ref z1, .int (nI z2), .int (nI z3), .int z4, .int z5, .ref z6, .ref z7, .ref z8, .ref z9, .int (nI z10), .ref z11, .ref z12, .ref z13, .ref z14, .ref z15, .int (nI zgw36), .ref z17, .int z18, .ref z19]))]) (rx := []) (pl := va_pl L M_413) (pl1 := va_pl L M_413) hP hD [] [0] rfl rfl (by decide) (by decide) hk1 hFc hP1 hD1
                          have hP : va_P D vwCl ([(za, .inr (13, [.int 0, .ref z1, .int (nI z2), .int (nI z3), .int z4, .int z5, .ref z6, .ref z7, .ref z8, .ref z9, .int (nI z10), .ref z11, .ref z12, .ref z13, .ref z14, .ref z15, .int (nI zgw36), .ref z17, .int z18, .ref z19]))] ++ va_pl L M_413) H_435 := hP
                          have hD : va_D A ([(za, .inr (13, [.int 0, .ref z1, .int (nI z2), .int (nI z3), .int z4, .int z5, .ref z6, .ref z7, .ref z8, .ref z9, .int (nI z10), .ref z11, .ref z12, .ref z13, .ref z14, .ref z15, .int (nI zgw36), .ref z17, .int z18, .ref z19]))] ++ va_pl L M_413) := hD
                          obtain ⟨f439, hM439⟩ := hW.open_14 i12
                          refine pg_iast hx hb hK hP hD hS i12.1 0 hM439 rfl (inbN zgw36 24 (by omega) (by omega)) dX13_bear_255 (fun H_440 locs hP hD hS => ?_)
                          obtain ⟨M_441, eM_441⟩ : ∃ M1 : Hp, M1 = va_up M_413 z12 (.inl (cy 14, 24, .inl (upd f439 ((nI zgw36) : Int32).toNatClampNeg r_436))) := ⟨_, rfl⟩
                          have hP : va_P D vwCl ([(za, .inr (13, [.int 0, .ref z1, .int (nI z2), .int (nI z3), .int z4, .int z5, .ref z6, .ref z7, .ref z8, .ref z9, .int (nI z10), .ref z11, .ref z12, .ref z13, .ref z14, .ref z15, .int (nI zgw36), .ref z17, .int z18, .ref z19]))] ++ va_pl L M_441) H_440 := by rw [eM_441]; exact hP
                          have hD : va_D A ([(za, .inr (13, [.int 0, .ref z1, .int (nI z2), .int (nI z3), .int z4, .int z5, .ref z6, .ref z7, .ref z8, .ref z9, .int (nI z10), .ref z11, .ref z12, .ref z13, .ref z14, .ref z15, .int (nI zgw36), .ref z17, .int z18, .ref z19]))] ++ va_pl L M_441) := by rw [eM_441]; exact hD
                          have hW : WOM cy K L M_441 := by rw [eM_441]; exact hW.up_14 i12 ⟨_, rfl⟩
                          have hF : fr K L [14, 15, 32] M M_441 := by rw [eM_441]; exact hF.up i12 (by decide)
                          have hM_442 : M_441 z12 = .inl (cy 14, 24, .inl (upd f439 ((nI zgw36) : Int32).toNatClampNeg r_436)) := by rw [eM_441]; exact va_up_self _ _ _
                          have hM_443 : M_441 z11 = .inl (cy 14, 24, .inl (f_419)) := by rw [eM_441, va_up_ne _ _ (i11.neT i12 (by decide))]; exact hM_414
                          have hM_444 : M_441 b11 = .inr (12, fs14) := by rw [eM_441, va_up_ne _ _ (hb_13.neT i12 (by decide))]; exact hM_415
                          have hM_445 : M_441 v109 = .inl (cy 14, 24, .inl (f110)) := by rw [eM_441, va_up_ne _ _ (hc109.neT i12 (by decide))]; exact hM_416
                          have hM_446 : M_441 v428 = .inl (cy 14, 24, .inl (f429)) := by rw [eM_441, va_up_ne _ _ (hc428.neT i12 (by decide))]; exact hM429
                          obtain ⟨f_447, ef_447⟩ : ∃ f : Nat → Int32, f = upd f439 ((nI zgw36) : Int32).toNatClampNeg r_436 := ⟨_, rfl⟩
                          rw [← ef_447] at hM_442
                          clear ef_447
                          refine lv_aload_n hx hb dX13_bear_256 rfl (lv_at hl 4 rfl) ?_
                          refine va_get (D := D) (ci := 13) (v := .ref z13) (C := RX13) (T := TX13) (N := 20) hx hb hg inG13 hown hK hP 0 rfl rfl 13 (by decide) (hg _ wd_789) (fun _ h9 => h9) rfl dX13_bear_257 ?_
                          refine lv_aload_n hx hb dX13_bear_260 rfl (lv_at hl 4 rfl) ?_
                          refine va_get (D := D) (ci := 13) (v := .int (nI zgw36)) (C := RX13) (T := TX13) (N := 20) hx hb hg inG13 hown hK hP 0 rfl rfl 16 (by decide) (hg _ wd_769) (fun _ h9 => h9) rfl dX13_bear_261 ?_
                          refine lv_lconst (v := 0) hx hb dX13_bear_264 (by decide) ?_
                          obtain ⟨f448, hM448⟩ := hW.open_15 i13
                          refine pg_last hx hb hK hP hD hS i13.1 1 hM448 rfl (inbN zgw36 24 (by omega) (by omega)) dX13_bear_265 (fun H_449 locs hP hD hS => ?_)
                          obtain ⟨M_450, eM_450⟩ : ∃ M1 : Hp, M1 = va_up M_441 z13 (.inl (cy 15, 24, .inr (.inl (vp_updL f448 ((nI zgw36) : Int32).toNatClampNeg 0)))) := ⟨_, rfl⟩
                          have hP : va_P D vwCl ([(za, .inr (13, [.int 0, .ref z1, .int (nI z2), .int (nI z3), .int z4, .int z5, .ref z6, .ref z7, .ref z8, .ref z9, .int (nI z10), .ref z11, .ref z12, .ref z13, .ref z14, .ref z15, .int (nI zgw36), .ref z17, .int z18, .ref z19]))] ++ va_pl L M_450) H_449 := by rw [eM_450]; exact hP
                          have hD : va_D A ([(za, .inr (13, [.int 0, .ref z1, .int (nI z2), .int (nI z3), .int z4, .int z5, .ref z6, .ref z7, .ref z8, .ref z9, .int (nI z10), .ref z11, .ref z12, .ref z13, .ref z14, .ref z15, .int (nI zgw36), .ref z17, .int z18, .ref z19]))] ++ va_pl L M_450) := by rw [eM_450]; exact hD
                          have hW : WOM cy K L M_450 := by rw [eM_450]; exact hW.up_15 i13 ⟨_, rfl⟩
                          have hF : fr K L [14, 15, 32] M M_450 := by rw [eM_450]; exact hF.up i13 (by decide)
                          have hM_451 : M_450 z13 = .inl (cy 15, 24, .inr (.inl (vp_updL f448 ((nI zgw36) : Int32).toNatClampNeg 0))) := by rw [eM_450]; exact va_up_self _ _ _
                          have hM_452 : M_450 z12 = .inl (cy 14, 24, .inl (f_447)) := by rw [eM_450, va_up_ne _ _ (i12.neT i13 (by decide))]; exact hM_442
                          have hM_453 : M_450 z11 = .inl (cy 14, 24, .inl (f_419)) := by rw [eM_450, va_up_ne _ _ (i11.neT i13 (by decide))]; exact hM_443
                          have hM_454 : M_450 b11 = .inr (12, fs14) := by rw [eM_450, va_up_ne _ _ (hb_13.neT i13 (by decide))]; exact hM_444
                          have hM_455 : M_450 v109 = .inl (cy 14, 24, .inl (f110)) := by rw [eM_450, va_up_ne _ _ (hc109.neT i13 (by decide))]; exact hM_445
                          have hM_456 : M_450 v428 = .inl (cy 14, 24, .inl (f429)) := by rw [eM_450, va_up_ne _ _ (hc428.neT i13 (by decide))]; exact hM_446
                          obtain ⟨f_457, ef_457⟩ : ∃ f : Nat → Int64, f = vp_updL f448 ((nI zgw36) : Int32).toNatClampNeg 0 := ⟨_, rfl⟩
                          rw [← ef_457] at hM_451
                          clear ef_457
                          refine lv_aload_n hx hb dX13_bear_266 rfl (lv_at hl 4 rfl) ?_
                          refine lv_dup hx hb dX13_bear_267 rfl ?_
                          refine va_get (D := D) (ci := 13) (v := .int (nI zgw36)) (C := RX13) (T := TX13) (N := 20) hx hb hg inG13 hown hK hP 0 rfl rfl 16 (by decide) (hg _ wd_769) (fun _ h9 => h9) rfl dX13_bear_268 ?_
                          refine lv_iconst (v := 1) hx hb dX13_bear_271 (by decide) ?_
                          refine lv_iadd hx hb dX13_bear_272 ?_
                          refine lv_topi (fun f_458 ef_458 => ?_)
                          obtain rfl : f_458 = (nI (zgw36 + 1)) := ef_458.trans (nI_add zgw36 1)
                          refine va_put (D := D) (ci := 13) (v := .int (nI (zgw36 + 1))) (ty := .int) (C := RX13) (T := TX13) (N := 20) hx hb hg inG13 tyX13 tyX13_ok nmX13 hown hK hP hD hS 0 rfl rfl 16 (by decide) (hg _ wd_769) (fun _ h9 => h9) rfl (by decide +kernel) rfl rfl (Nat.le_of_ble_eq_true rfl) dX13_bear_273 (fun H_459 locs hP hD hS => ?_)
                          have hP : va_P D vwCl ([(za, .inr (13, [.int 0, .ref z1, .int (nI z2), .int (nI z3), .int z4, .int z5, .ref z6, .ref z7, .ref z8, .ref z9, .int (nI z10), .ref z11, .ref z12, .ref z13, .ref z14, .ref z15, .int (nI (zgw36 + 1)), .ref z17, .int z18, .ref z19]))] ++ va_pl L M_450) H_459 := hP
                          have hD : va_D A ([(za, .inr (13, [.int 0, .ref z1, .int (nI z2), .int (nI z3), .int z4, .int z5, .ref z6, .ref z7, .ref z8, .ref z9, .int (nI z10), .ref z11, .ref z12, .ref z13, .ref z14, .ref z15, .int (nI (zgw36 + 1)), .ref z17, .int z18, .ref z19]))] ++ va_pl L M_450) := hD
                          refine lv_iinc (v := (nI (v5w36 + 1))) (lv' := [(5, .int (nI (v5w36 + 1))), (7, .int 0), (6, .int 1), (4, .ref b11), (0, .ref za), (1, .int k1), (2, .int k2), (3, .int k3)]) hx hb dX13_bear_276 hl (k := 2) rfl (nI_1 v5w36) (by decide) rfl (fun ls hl => ?_)
                          refine lv_goto (tgt := 82) hx hb dX13_bear_279 (by decide) ?_
                          exact ih_34 (v5w36 + 1) (zgw36 + 1) M_450 H_459 _ _ (by omega) hM_454 (by omega) (by omega) hW hF hP hD hS (lv_sub hl [0, 3, 4, 5, 6, 7] rfl)
                        · have hz := rfl (a := 0)
                          refine lv_aload hx hb dX13_bear_158 (lv_at hl 2 rfl) ?_
                          obtain ⟨v460, hv460, hc460⟩ : ∃ v : Nat, fs14[26]? = some (.ref v : Value) ∧ isk K L v 16 24 := hl14 26 (by decide)
                          refine pg_getN (D := D) (ci := 12) (v := .ref v460) (C := RX12) (T := TX12) (N := 51) hx hb hg inG12 hown hK hP hb_13.1 hM_41 rfl 26 (by decide) (hN.use (Cond.fieldLinkNest RX13 124 RX12 "word" "[Z" RX13) 35 rfl rfl) (fun _ h9 => h9) hv460 dX13_bear_160 ?_
                          refine lv_iload hx hb dX13_bear_163 (lv_at hl 1 rfl) ?_
                          obtain ⟨f461, hM461, hf461⟩ := hW.open_16 hc460
                          have hi_462 : vp_in (nI v5w36) 24 := (inbN v5w36 24 (by omega) (by omega))
                          refine pg_zald hx hb hK hP hc460.1 2 hM461 rfl hi_462 dX13_bear_165 ?_
                          rcases hf461 _ (vp_lt hi_462) with ec_463 | ec_463
                          · rw [ec_463]
                            refine lv_if_eq (tgt := 185) hx hb dX13_bear_166 (by decide) (fun _ => ?_) (fun c_464 => absurd c_464 (by decide))
                            refine lv_iconst (v := 0) hx hb dX13_bear_185 (by decide) ?_
                            refine lv_istore (lv' := [(7, .int 0), (6, .int 1), (5, .int (nI v5w36)), (4, .ref b11), (0, .ref za), (1, .int k1), (2, .int k2), (3, .int k3)]) hx hb dX13_bear_186 hl (by decide) rfl (fun ls hl => ?_)
                            refine lv_iload hx hb dX13_bear_188 (lv_at hl 1 rfl) ?_
                            refine lv_if_ne (tgt := 201) hx hb dX13_bear_190 (by decide) (fun _ => ?_) (fun c_465 => absurd c_465 (by decide))
                            refine lv_aload_n hx hb dX13_bear_201 rfl (lv_at hl 4 rfl) ?_
                            refine va_get (D := D) (ci := 13) (v := .ref z11) (C := RX13) (T := TX13) (N := 20) hx hb hg inG13 hown hK hP 0 rfl rfl 11 (by decide) (hg _ wd_764) (fun _ h9 => h9) rfl dX13_bear_202 ?_
                            refine lv_aload_n hx hb dX13_bear_205 rfl (lv_at hl 4 rfl) ?_
                            refine va_get (D := D) (ci := 13) (v := .int (nI zgw36)) (C := RX13) (T := TX13) (N := 20) hx hb hg inG13 hown hK hP 0 rfl rfl 16 (by decide) (hg _ wd_769) (fun _ h9 => h9) rfl dX13_bear_206 ?_
                            refine lv_iload hx hb dX13_bear_209 (lv_at hl 2 rfl) ?_
                            obtain ⟨f466, hM466, hf466⟩ := hW.open_32 i11
                            refine pg_iast hx hb hK hP hD hS i11.1 0 hM466 rfl (inbN zgw36 24 (by omega) (by omega)) dX13_bear_211 (fun H_467 locs hP hD hS => ?_)
                            obtain ⟨M_468, eM_468⟩ : ∃ M1 : Hp, M1 = va_up M_39 z11 (.inl (cy 14, 24, .inl (upd f466 ((nI zgw36) : Int32).toNatClampNeg (nI v5w36)))) := ⟨_, rfl⟩
                            have hP : va_P D vwCl ([(za, .inr (13, [.int 0, .ref z1, .int (nI z2), .int (nI z3), .int z4, .int z5, .ref z6, .ref z7, .ref z8, .ref z9, .int (nI z10), .ref z11, .ref z12, .ref z13, .ref z14, .ref z15, .int (nI zgw36), .ref z17, .int z18, .ref z19]))] ++ va_pl L M_468) H_467 := by rw [eM_468]; exact hP
                            have hD : va_D A ([(za, .inr (13, [.int 0, .ref z1, .int (nI z2), .int (nI z3), .int z4, .int z5, .ref z6, .ref z7, .ref z8, .ref z9, .int (nI z10), .ref z11, .ref z12, .ref z13, .ref z14, .ref z15, .int (nI zgw36), .ref z17, .int z18, .ref z19]))] ++ va_pl L M_468) := by rw [eM_468]; exact hD
                            have hW : WOM cy K L M_468 := by rw [eM_468]; exact hW.up_32 i11 ⟨_, rfl, (updP (P := fun z => ∃ c : Nat, c < 24 ∧ z = nI c) hf466 ⟨v5w36, by omega, rfl⟩)⟩
                            have hF : fr K L [14, 15, 32] M M_468 := by rw [eM_468]; exact hF.up i11 (by decide)
                            have hM_469 : M_468 z11 = .inl (cy 14, 24, .inl (upd f466 ((nI zgw36) : Int32).toNatClampNeg (nI v5w36))) := by rw [eM_468]; exact va_up_self _ _ _
                            have hM_470 : M_468 b11 = .inr (12, fs14) := by rw [eM_468, va_up_ne _ _ (hb_13.neT i11 (by decide))]; exact hM_41
                            have hM_471 : M_468 v109 = .inl (cy 14, 24, .inl (f110)) := by rw [eM_468, va_up_ne _ _ (hc109.neT i11 (by decide))]; exact hM110
                            have hM_472 : M_468 v335 = .inl (cy 14, 24, .inl (f336)) := by rw [eM_468, va_up_ne _ _ (hc335.neT i11 (by decide))]; exact hM336
                            have hM_473 : M_468 v406 = .inl (cy 14, 24, .inl (f407)) := by rw [eM_468, va_up_ne _ _ (hc406.neT i11 (by decide))]; exact hM407
                            have hM_474 : M_468 v460 = .inl (cy 16, 24, .inl (f461)) := by rw [eM_468, va_up_ne _ _ (hc460.neT i11 (by decide))]; exact hM461
                            have hf_476 : ∀ j, j < 24 → ∃ c : Nat, c < 24 ∧ (upd f466 ((nI zgw36) : Int32).toNatClampNeg (nI v5w36)) j = nI c := (updP (P := fun z => ∃ c : Nat, c < 24 ∧ z = nI c) hf466 ⟨v5w36, by omega, rfl⟩)
                            obtain ⟨f_475, ef_475⟩ : ∃ f : Nat → Int32, f = upd f466 ((nI zgw36) : Int32).toNatClampNeg (nI v5w36) := ⟨_, rfl⟩
                            rw [← ef_475] at hM_469 hf_476
                            clear ef_475
                            refine lv_aload_n hx hb dX13_bear_212 rfl (lv_at hl 4 rfl) ?_
                            refine va_get (D := D) (ci := 13) (v := .ref z12) (C := RX13) (T := TX13) (N := 20) hx hb hg inG13 hown hK hP 0 rfl rfl 12 (by decide) (hg _ wd_763) (fun _ h9 => h9) rfl dX13_bear_213 ?_
                            refine lv_aload_n hx hb dX13_bear_216 rfl (lv_at hl 4 rfl) ?_
                            refine va_get (D := D) (ci := 13) (v := .int (nI zgw36)) (C := RX13) (T := TX13) (N := 20) hx hb hg inG13 hown hK hP 0 rfl rfl 16 (by decide) (hg _ wd_769) (fun _ h9 => h9) rfl dX13_bear_217 ?_
                            refine lv_aload hx hb dX13_bear_220 (lv_at hl 3 rfl) ?_
                            refine lv_iload hx hb dX13_bear_222 (lv_at hl 1 rfl) ?_
                            refine lv_if_eq (tgt := 236) hx hb dX13_bear_224 (by decide) (fun c_477 => absurd c_477 (by decide)) (fun _ => ?_)
                            refine lv_aload hx hb dX13_bear_227 (lv_at hl 3 rfl) ?_
                            refine lv_iload_n hx hb dX13_bear_229 rfl (lv_at hl 6 rfl) ?_
                            have hPc : va_P D vwCl ([] ++ va_pl L M_468) H_467 := hP.part (cx := []) [] rfl
                            have hDc : va_D A ([] ++ va_pl L M_468) := hD.part (cx := []) [] (by decide) rfl
                            have hFc : ∀ q, va_A ([] ++ va_pl L M_468) H_467.size q → A q := pg_free hDc hS hA
                            refine va_calli (va_runV (As := [.int k2]) (rest := [.ref b11, .int (nI zgw36), .ref z12]) ⟨hx, hb, hml, hown, hg⟩ (r_ruleOnP l D cy K L M_468 H_467.size b11 k2  hW hb_13 (RLD.of hW (RLI.fr hW0 hRL hF (by decide) (by decide)) hb_13 hM_470 hv15 (by omega) hc15 hv24 (Int32.not_lt.mp c_25))) (cwV 1 hg (gV wd_815 wd_816 wd_817 wd_737 wd_818) rfl rfl rfl (by decide +kernel) ⟨(Nat.le_trans (Nat.le_of_ble_eq_true rfl) hRf), (Nat.le_trans (Nat.le_of_ble_eq_true rfl) hRl)⟩) ⟨PG.blind, pg_recv hK hP hb_13.1 hM_470 rfl, fun U hU hW => ⟨rfl, PG.at hPc hK hDc hN hU hW⟩⟩ rfl rfl hl.1 rfl (lv_room (Nat.le_of_ble_eq_true rfl)) dX13_bear_230 ⟨(Nat.le_trans (Nat.le_of_ble_eq_true rfl) hRc), (Nat.le_trans (Nat.le_of_ble_eq_true rfl) hRs)⟩) hS (fun q _ h => hFc q h) hFc (fun r_479 M_480 t H_478 locs ht hvm hw hB hz1 hk1 hS => ?_)
                            have hp_481 := hw
                            obtain ⟨hP1, hD1⟩ := hB
                            rw [ht] at hP1
                            obtain ⟨hP, hD⟩ := va_joinP (X := [(za, .inr (13, [.int 0, .ref z1, .int (nI z2), .int (nI z3), .int z4, .int z5, .ref z6, .ref z7, .ref z8, .ref z9, .int (nI z10), .ref z11, .ref z12, .ref z13, .ref z14, .ref z15, .int (nI zgw36), .ref z17, .int z18, .ref z19]))]) (cx := []) (wr := [(za, .inr (13, [.int 0, .ref z1, .int (nI z2), .int (nI z3), .int z4, .int z5, .ref z6, .ref z7, .ref z8, .ref z9, .int (nI z10), .ref z11, .ref z12, .ref z13, .ref z14, .ref z15, .int (nI zgw36), .ref z17, .int z18, .ref z19]))]) (rx := []) (pl := va_pl L M_468) (pl1 := va_pl L M_468) hP hD [] [0] rfl rfl (by decide) (by decide) hk1 hFc hP1 hD1
                            have hP : va_P D vwCl ([(za, .inr (13, [.int 0, .ref z1, .int (nI z2), .int (nI z3), .int z4, .int z5, .ref z6, .ref z7, .ref z8, .ref z9, .int (nI z10), .ref z11, .ref z12, .ref z13, .ref z14, .ref z15, .int (nI zgw36), .ref z17, .int z18, .ref z19]))] ++ va_pl L M_468) H_478 := hP
                            have hD : va_D A ([(za, .inr (13, [.int 0, .ref z1, .int (nI z2), .int (nI z3), .int z4, .int z5, .ref z6, .ref z7, .ref z8, .ref z9, .int (nI z10), .ref z11, .ref z12, .ref z13, .ref z14, .ref z15, .int (nI zgw36), .ref z17, .int z18, .ref z19]))] ++ va_pl L M_468) := hD
                            obtain ⟨j_482, rfl, c_483⟩ := hp_481
                            refine lv_goto (tgt := 243) hx hb dX13_bear_233 (by decide) ?_
                            refine lv_iconst (v := 3) hx hb dX13_bear_243 (by decide) ?_
                            refine lv_aload hx hb dX13_bear_244 (lv_at hl 3 rfl) ?_
                            obtain ⟨v484, hv484, hc484⟩ : ∃ v : Nat, fs14[20]? = some (.ref v : Value) ∧ isk K L v 31 24 := hl14 20 (by decide)
                            refine pg_getN (D := D) (ci := 12) (v := .ref v484) (C := RX12) (T := TX12) (N := 51) hx hb hg inG12 hown hK hP hb_13.1 hM_470 rfl 20 (by decide) (hN.use (Cond.fieldLinkNest RX13 110 RX12 "where" "[I" RX13) 29 rfl rfl) (fun _ h9 => h9) hv484 dX13_bear_246 ?_
                            refine lv_iload hx hb dX13_bear_249 (lv_at hl 2 rfl) ?_
                            obtain ⟨f485, hM485, hf485⟩ := hW.open_31 hc484
                            have hi_486 : vp_in (nI v5w36) 24 := (inbN v5w36 24 (by omega) (by omega))
                            refine pg_iald hx hb hK hP hc484.1 0 hM485 rfl hi_486 dX13_bear_251 ?_
                            have hp_487 := hf485 _ (vp_lt hi_486)
                            obtain ⟨c_488, hc_489, ec_490⟩ := hp_487
                            rw [ec_490]
                            have hPc : va_P D vwCl ([] ++ va_pl L M_468) H_478 := hP.part (cx := []) [] rfl
                            have hDc : va_D A ([] ++ va_pl L M_468) := hD.part (cx := []) [] (by decide) rfl
                            have hFc : ∀ q, va_A ([] ++ va_pl L M_468) H_478.size q → A q := pg_free hDc hS hA
                            refine va_calli (va_runV (As := [.int (nI j_482), .int 3, .int (nI c_488)]) (rest := [.int (nI zgw36), .ref z12]) ⟨hx, hb, hml, hown, hg⟩ (r_X12_term l D cy K L M_468 H_478.size b11 j_482 3 c_488  hW hb_13 c_483 (by omega) hc_489) (cwV 3 hg (gV wd_770 wd_771 wd_772 wd_737 wd_773) rfl rfl rfl (by decide +kernel) ⟨(Nat.le_trans (Nat.le_of_ble_eq_true rfl) hRf), (Nat.le_trans (Nat.le_of_ble_eq_true rfl) hRl)⟩) ⟨PG.blind, pg_recv hK hP hb_13.1 hM_470 rfl, fun U hU hW => ⟨rfl, PG.at hPc hK hDc hN hU hW⟩⟩ rfl rfl hl.1 rfl (lv_room (Nat.le_of_ble_eq_true rfl)) dX13_bear_252 ⟨(Nat.le_trans (Nat.le_of_ble_eq_true rfl) hRc), (Nat.le_trans (Nat.le_of_ble_eq_true rfl) hRs)⟩) hS (fun q _ h => hFc q h) hFc (fun r_492 M_493 t H_491 locs ht hvm hw hB hz1 hk1 hS => ?_)
                            have hp_494 := hw
                            obtain ⟨hP1, hD1⟩ := hB
                            rw [ht] at hP1
                            obtain ⟨hP, hD⟩ := va_joinP (X := [(za, .inr (13, [.int 0, .ref z1, .int (nI z2), .int (nI z3), .int z4, .int z5, .ref z6, .ref z7, .ref z8, .ref z9, .int (nI z10), .ref z11, .ref z12, .ref z13, .ref z14, .ref z15, .int (nI zgw36), .ref z17, .int z18, .ref z19]))]) (cx := []) (wr := [(za, .inr (13, [.int 0, .ref z1, .int (nI z2), .int (nI z3), .int z4, .int z5, .ref z6, .ref z7, .ref z8, .ref z9, .int (nI z10), .ref z11, .ref z12, .ref z13, .ref z14, .ref z15, .int (nI zgw36), .ref z17, .int z18, .ref z19]))]) (rx := []) (pl := va_pl L M_468) (pl1 := va_pl L M_468) hP hD [] [0] rfl rfl (by decide) (by decide) hk1 hFc hP1 hD1
                            have hP : va_P D vwCl ([(za, .inr (13, [.int 0, .ref z1, .int (nI z2), .int (nI z3), .int z4, .int z5, .ref z6, .ref z7, .ref z8, .ref z9, .int (nI z10), .ref z11, .ref z12, .ref z13, .ref z14, .ref z15, .int (nI zgw36), .ref z17, .int z18, .ref z19]))] ++ va_pl L M_468) H_491 := hP
                            have hD : va_D A ([(za, .inr (13, [.int 0, .ref z1, .int (nI z2), .int (nI z3), .int z4, .int z5, .ref z6, .ref z7, .ref z8, .ref z9, .int (nI z10), .ref z11, .ref z12, .ref z13, .ref z14, .ref z15, .int (nI zgw36), .ref z17, .int z18, .ref z19]))] ++ va_pl L M_468) := hD
                            obtain ⟨f495, hM495⟩ := hW.open_14 i12
                            refine pg_iast hx hb hK hP hD hS i12.1 0 hM495 rfl (inbN zgw36 24 (by omega) (by omega)) dX13_bear_255 (fun H_496 locs hP hD hS => ?_)
                            obtain ⟨M_497, eM_497⟩ : ∃ M1 : Hp, M1 = va_up M_468 z12 (.inl (cy 14, 24, .inl (upd f495 ((nI zgw36) : Int32).toNatClampNeg r_492))) := ⟨_, rfl⟩
                            have hP : va_P D vwCl ([(za, .inr (13, [.int 0, .ref z1, .int (nI z2), .int (nI z3), .int z4, .int z5, .ref z6, .ref z7, .ref z8, .ref z9, .int (nI z10), .ref z11, .ref z12, .ref z13, .ref z14, .ref z15, .int (nI zgw36), .ref z17, .int z18, .ref z19]))] ++ va_pl L M_497) H_496 := by rw [eM_497]; exact hP
                            have hD : va_D A ([(za, .inr (13, [.int 0, .ref z1, .int (nI z2), .int (nI z3), .int z4, .int z5, .ref z6, .ref z7, .ref z8, .ref z9, .int (nI z10), .ref z11, .ref z12, .ref z13, .ref z14, .ref z15, .int (nI zgw36), .ref z17, .int z18, .ref z19]))] ++ va_pl L M_497) := by rw [eM_497]; exact hD
                            have hW : WOM cy K L M_497 := by rw [eM_497]; exact hW.up_14 i12 ⟨_, rfl⟩
                            have hF : fr K L [14, 15, 32] M M_497 := by rw [eM_497]; exact hF.up i12 (by decide)
                            have hM_498 : M_497 z12 = .inl (cy 14, 24, .inl (upd f495 ((nI zgw36) : Int32).toNatClampNeg r_492)) := by rw [eM_497]; exact va_up_self _ _ _
                            have hM_499 : M_497 z11 = .inl (cy 14, 24, .inl (f_475)) := by rw [eM_497, va_up_ne _ _ (i11.neT i12 (by decide))]; exact hM_469
                            have hM_500 : M_497 b11 = .inr (12, fs14) := by rw [eM_497, va_up_ne _ _ (hb_13.neT i12 (by decide))]; exact hM_470
                            have hM_501 : M_497 v109 = .inl (cy 14, 24, .inl (f110)) := by rw [eM_497, va_up_ne _ _ (hc109.neT i12 (by decide))]; exact hM_471
                            have hM_502 : M_497 v460 = .inl (cy 16, 24, .inl (f461)) := by rw [eM_497, va_up_ne _ _ (hc460.neT i12 (by decide))]; exact hM_474
                            have hM_503 : M_497 v484 = .inl (cy 14, 24, .inl (f485)) := by rw [eM_497, va_up_ne _ _ (hc484.neT i12 (by decide))]; exact hM485
                            obtain ⟨f_504, ef_504⟩ : ∃ f : Nat → Int32, f = upd f495 ((nI zgw36) : Int32).toNatClampNeg r_492 := ⟨_, rfl⟩
                            rw [← ef_504] at hM_498
                            clear ef_504
                            refine lv_aload_n hx hb dX13_bear_256 rfl (lv_at hl 4 rfl) ?_
                            refine va_get (D := D) (ci := 13) (v := .ref z13) (C := RX13) (T := TX13) (N := 20) hx hb hg inG13 hown hK hP 0 rfl rfl 13 (by decide) (hg _ wd_789) (fun _ h9 => h9) rfl dX13_bear_257 ?_
                            refine lv_aload_n hx hb dX13_bear_260 rfl (lv_at hl 4 rfl) ?_
                            refine va_get (D := D) (ci := 13) (v := .int (nI zgw36)) (C := RX13) (T := TX13) (N := 20) hx hb hg inG13 hown hK hP 0 rfl rfl 16 (by decide) (hg _ wd_769) (fun _ h9 => h9) rfl dX13_bear_261 ?_
                            refine lv_lconst (v := 0) hx hb dX13_bear_264 (by decide) ?_
                            obtain ⟨f505, hM505⟩ := hW.open_15 i13
                            refine pg_last hx hb hK hP hD hS i13.1 1 hM505 rfl (inbN zgw36 24 (by omega) (by omega)) dX13_bear_265 (fun H_506 locs hP hD hS => ?_)
                            obtain ⟨M_507, eM_507⟩ : ∃ M1 : Hp, M1 = va_up M_497 z13 (.inl (cy 15, 24, .inr (.inl (vp_updL f505 ((nI zgw36) : Int32).toNatClampNeg 0)))) := ⟨_, rfl⟩
                            have hP : va_P D vwCl ([(za, .inr (13, [.int 0, .ref z1, .int (nI z2), .int (nI z3), .int z4, .int z5, .ref z6, .ref z7, .ref z8, .ref z9, .int (nI z10), .ref z11, .ref z12, .ref z13, .ref z14, .ref z15, .int (nI zgw36), .ref z17, .int z18, .ref z19]))] ++ va_pl L M_507) H_506 := by rw [eM_507]; exact hP
                            have hD : va_D A ([(za, .inr (13, [.int 0, .ref z1, .int (nI z2), .int (nI z3), .int z4, .int z5, .ref z6, .ref z7, .ref z8, .ref z9, .int (nI z10), .ref z11, .ref z12, .ref z13, .ref z14, .ref z15, .int (nI zgw36), .ref z17, .int z18, .ref z19]))] ++ va_pl L M_507) := by rw [eM_507]; exact hD
                            have hW : WOM cy K L M_507 := by rw [eM_507]; exact hW.up_15 i13 ⟨_, rfl⟩
                            have hF : fr K L [14, 15, 32] M M_507 := by rw [eM_507]; exact hF.up i13 (by decide)
                            have hM_508 : M_507 z13 = .inl (cy 15, 24, .inr (.inl (vp_updL f505 ((nI zgw36) : Int32).toNatClampNeg 0))) := by rw [eM_507]; exact va_up_self _ _ _
                            have hM_509 : M_507 z12 = .inl (cy 14, 24, .inl (f_504)) := by rw [eM_507, va_up_ne _ _ (i12.neT i13 (by decide))]; exact hM_498
                            have hM_510 : M_507 z11 = .inl (cy 14, 24, .inl (f_475)) := by rw [eM_507, va_up_ne _ _ (i11.neT i13 (by decide))]; exact hM_499
                            have hM_511 : M_507 b11 = .inr (12, fs14) := by rw [eM_507, va_up_ne _ _ (hb_13.neT i13 (by decide))]; exact hM_500
                            have hM_512 : M_507 v109 = .inl (cy 14, 24, .inl (f110)) := by rw [eM_507, va_up_ne _ _ (hc109.neT i13 (by decide))]; exact hM_501
                            have hM_513 : M_507 v460 = .inl (cy 16, 24, .inl (f461)) := by rw [eM_507, va_up_ne _ _ (hc460.neT i13 (by decide))]; exact hM_502
                            have hM_514 : M_507 v484 = .inl (cy 14, 24, .inl (f485)) := by rw [eM_507, va_up_ne _ _ (hc484.neT i13 (by decide))]; exact hM_503
                            obtain ⟨f_515, ef_515⟩ : ∃ f : Nat → Int64, f = vp_updL f505 ((nI zgw36) : Int32).toNatClampNeg 0 := ⟨_, rfl⟩
                            rw [← ef_515] at hM_508
                            clear ef_515
                            refine lv_aload_n hx hb dX13_bear_266 rfl (lv_at hl 4 rfl) ?_
                            refine lv_dup hx hb dX13_bear_267 rfl ?_
                            refine va_get (D := D) (ci := 13) (v := .int (nI zgw36)) (C := RX13) (T := TX13) (N := 20) hx hb hg inG13 hown hK hP 0 rfl rfl 16 (by decide) (hg _ wd_769) (fun _ h9 => h9) rfl dX13_bear_268 ?_
                            refine lv_iconst (v := 1) hx hb dX13_bear_271 (by decide) ?_
                            refine lv_iadd hx hb dX13_bear_272 ?_
                            refine lv_topi (fun f_516 ef_516 => ?_)
                            obtain rfl : f_516 = (nI (zgw36 + 1)) := ef_516.trans (nI_add zgw36 1)
                            refine va_put (D := D) (ci := 13) (v := .int (nI (zgw36 + 1))) (ty := .int) (C := RX13) (T := TX13) (N := 20) hx hb hg inG13 tyX13 tyX13_ok nmX13 hown hK hP hD hS 0 rfl rfl 16 (by decide) (hg _ wd_769) (fun _ h9 => h9) rfl (by decide +kernel) rfl rfl (Nat.le_of_ble_eq_true rfl) dX13_bear_273 (fun H_517 locs hP hD hS => ?_)
                            have hP : va_P D vwCl ([(za, .inr (13, [.int 0, .ref z1, .int (nI z2), .int (nI z3), .int z4, .int z5, .ref z6, .ref z7, .ref z8, .ref z9, .int (nI z10), .ref z11, .ref z12, .ref z13, .ref z14, .ref z15, .int (nI (zgw36 + 1)), .ref z17, .int z18, .ref z19]))] ++ va_pl L M_507) H_517 := hP
                            have hD : va_D A ([(za, .inr (13, [.int 0, .ref z1, .int (nI z2), .int (nI z3), .int z4, .int z5, .ref z6, .ref z7, .ref z8, .ref z9, .int (nI z10), .ref z11, .ref z12, .ref z13, .ref z14, .ref z15, .int (nI (zgw36 + 1)), .ref z17, .int z18, .ref z19]))] ++ va_pl L M_507) := hD
                            refine lv_iinc (v := (nI (v5w36 + 1))) (lv' := [(5, .int (nI (v5w36 + 1))), (7, .int 0), (6, .int 1), (4, .ref b11), (0, .ref za), (1, .int k1), (2, .int k2), (3, .int k3)]) hx hb dX13_bear_276 hl (k := 2) rfl (nI_1 v5w36) (by decide) rfl (fun ls hl => ?_)
                            refine lv_goto (tgt := 82) hx hb dX13_bear_279 (by decide) ?_
                            exact ih_34 (v5w36 + 1) (zgw36 + 1) M_507 H_517 _ _ (by omega) hM_511 (by omega) (by omega) hW hF hP hD hS (lv_sub hl [0, 3, 4, 5, 6, 7] rfl)
                          · rw [ec_463]
                            refine lv_if_eq (tgt := 185) hx hb dX13_bear_166 (by decide) (fun c_518 => absurd c_518 (by decide)) (fun _ => ?_)
                            refine lv_aload hx hb dX13_bear_169 (lv_at hl 2 rfl) ?_
                            refine pg_getN (D := D) (ci := 12) (v := .ref v109) (C := RX12) (T := TX12) (N := 51) hx hb hg inG12 hown hK hP hb_13.1 hM_41 rfl 22 (by decide) (hN.use (Cond.fieldLinkNest RX13 95 RX12 "ended" "[I" RX13) 31 rfl rfl) (fun _ h9 => h9) hv109 dX13_bear_171 ?_
                            refine lv_iload hx hb dX13_bear_174 (lv_at hl 1 rfl) ?_
                            refine pg_iald hx hb hK hP hc109.1 0 hM110 rfl (inbN v5w36 24 (by omega) (by omega)) dX13_bear_176 ?_
                            refine lv_topi (fun f_519 ef_519 => ?_)
                            refine lv_iconst (v := (-1)) hx hb dX13_bear_177 (by decide) ?_
                            refine lv_icmp_ne (tgt := 185) hx hb dX13_bear_178 (by decide) (fun c_520 => ?_) (fun c_520 => ?_)
                            · have hz := rfl (a := 0)
                              refine lv_iconst (v := 0) hx hb dX13_bear_185 (by decide) ?_
                              refine lv_istore (lv' := [(7, .int 0), (6, .int 1), (5, .int (nI v5w36)), (4, .ref b11), (0, .ref za), (1, .int k1), (2, .int k2), (3, .int k3)]) hx hb dX13_bear_186 hl (by decide) rfl (fun ls hl => ?_)
                              refine lv_iload hx hb dX13_bear_188 (lv_at hl 1 rfl) ?_
                              refine lv_if_ne (tgt := 201) hx hb dX13_bear_190 (by decide) (fun _ => ?_) (fun c_521 => absurd c_521 (by decide))
                              refine lv_aload_n hx hb dX13_bear_201 rfl (lv_at hl 4 rfl) ?_
                              refine va_get (D := D) (ci := 13) (v := .ref z11) (C := RX13) (T := TX13) (N := 20) hx hb hg inG13 hown hK hP 0 rfl rfl 11 (by decide) (hg _ wd_764) (fun _ h9 => h9) rfl dX13_bear_202 ?_
                              refine lv_aload_n hx hb dX13_bear_205 rfl (lv_at hl 4 rfl) ?_
                              refine va_get (D := D) (ci := 13) (v := .int (nI zgw36)) (C := RX13) (T := TX13) (N := 20) hx hb hg inG13 hown hK hP 0 rfl rfl 16 (by decide) (hg _ wd_769) (fun _ h9 => h9) rfl dX13_bear_206 ?_
                              refine lv_iload hx hb dX13_bear_209 (lv_at hl 2 rfl) ?_
                              obtain ⟨f522, hM522, hf522⟩ := hW.open_32 i11
                              refine pg_iast hx hb hK hP hD hS i11.1 0 hM522 rfl (inbN zgw36 24 (by omega) (by omega)) dX13_bear_211 (fun H_523 locs hP hD hS => ?_)
                              obtain ⟨M_524, eM_524⟩ : ∃ M1 : Hp, M1 = va_up M_39 z11 (.inl (cy 14, 24, .inl (upd f522 ((nI zgw36) : Int32).toNatClampNeg (nI v5w36)))) := ⟨_, rfl⟩
                              have hP : va_P D vwCl ([(za, .inr (13, [.int 0, .ref z1, .int (nI z2), .int (nI z3), .int z4, .int z5, .ref z6, .ref z7, .ref z8, .ref z9, .int (nI z10), .ref z11, .ref z12, .ref z13, .ref z14, .ref z15, .int (nI zgw36), .ref z17, .int z18, .ref z19]))] ++ va_pl L M_524) H_523 := by rw [eM_524]; exact hP
                              have hD : va_D A ([(za, .inr (13, [.int 0, .ref z1, .int (nI z2), .int (nI z3), .int z4, .int z5, .ref z6, .ref z7, .ref z8, .ref z9, .int (nI z10), .ref z11, .ref z12, .ref z13, .ref z14, .ref z15, .int (nI zgw36), .ref z17, .int z18, .ref z19]))] ++ va_pl L M_524) := by rw [eM_524]; exact hD
                              have hW : WOM cy K L M_524 := by rw [eM_524]; exact hW.up_32 i11 ⟨_, rfl, (updP (P := fun z => ∃ c : Nat, c < 24 ∧ z = nI c) hf522 ⟨v5w36, by omega, rfl⟩)⟩
                              have hF : fr K L [14, 15, 32] M M_524 := by rw [eM_524]; exact hF.up i11 (by decide)
                              have hM_525 : M_524 z11 = .inl (cy 14, 24, .inl (upd f522 ((nI zgw36) : Int32).toNatClampNeg (nI v5w36))) := by rw [eM_524]; exact va_up_self _ _ _
                              have hM_526 : M_524 b11 = .inr (12, fs14) := by rw [eM_524, va_up_ne _ _ (hb_13.neT i11 (by decide))]; exact hM_41
                              have hM_527 : M_524 v109 = .inl (cy 14, 24, .inl (f110)) := by rw [eM_524, va_up_ne _ _ (hc109.neT i11 (by decide))]; exact hM110
                              have hM_528 : M_524 v335 = .inl (cy 14, 24, .inl (f336)) := by rw [eM_524, va_up_ne _ _ (hc335.neT i11 (by decide))]; exact hM336
                              have hM_529 : M_524 v406 = .inl (cy 14, 24, .inl (f407)) := by rw [eM_524, va_up_ne _ _ (hc406.neT i11 (by decide))]; exact hM407
                              have hM_530 : M_524 v460 = .inl (cy 16, 24, .inl (f461)) := by rw [eM_524, va_up_ne _ _ (hc460.neT i11 (by decide))]; exact hM461
                              have hf_532 : ∀ j, j < 24 → ∃ c : Nat, c < 24 ∧ (upd f522 ((nI zgw36) : Int32).toNatClampNeg (nI v5w36)) j = nI c := (updP (P := fun z => ∃ c : Nat, c < 24 ∧ z = nI c) hf522 ⟨v5w36, by omega, rfl⟩)
                              obtain ⟨f_531, ef_531⟩ : ∃ f : Nat → Int32, f = upd f522 ((nI zgw36) : Int32).toNatClampNeg (nI v5w36) := ⟨_, rfl⟩
                              rw [← ef_531] at hM_525 hf_532
                              clear ef_531
                              refine lv_aload_n hx hb dX13_bear_212 rfl (lv_at hl 4 rfl) ?_
                              refine va_get (D := D) (ci := 13) (v := .ref z12) (C := RX13) (T := TX13) (N := 20) hx hb hg inG13 hown hK hP 0 rfl rfl 12 (by decide) (hg _ wd_763) (fun _ h9 => h9) rfl dX13_bear_213 ?_
                              refine lv_aload_n hx hb dX13_bear_216 rfl (lv_at hl 4 rfl) ?_
                              refine va_get (D := D) (ci := 13) (v := .int (nI zgw36)) (C := RX13) (T := TX13) (N := 20) hx hb hg inG13 hown hK hP 0 rfl rfl 16 (by decide) (hg _ wd_769) (fun _ h9 => h9) rfl dX13_bear_217 ?_
                              refine lv_aload hx hb dX13_bear_220 (lv_at hl 3 rfl) ?_
                              refine lv_iload hx hb dX13_bear_222 (lv_at hl 1 rfl) ?_
                              refine lv_if_eq (tgt := 236) hx hb dX13_bear_224 (by decide) (fun c_533 => absurd c_533 (by decide)) (fun _ => ?_)
                              refine lv_aload hx hb dX13_bear_227 (lv_at hl 3 rfl) ?_
                              refine lv_iload_n hx hb dX13_bear_229 rfl (lv_at hl 6 rfl) ?_
                              have hPc : va_P D vwCl ([] ++ va_pl L M_524) H_523 := hP.part (cx := []) [] rfl
                              have hDc : va_D A ([] ++ va_pl L M_524) := hD.part (cx := []) [] (by decide) rfl
                              have hFc : ∀ q, va_A ([] ++ va_pl L M_524) H_523.size q → A q := pg_free hDc hS hA
                              refine va_calli (va_runV (As := [.int k2]) (rest := [.ref b11, .int (nI zgw36), .ref z12]) ⟨hx, hb, hml, hown, hg⟩ (r_ruleOnP l D cy K L M_524 H_523.size b11 k2  hW hb_13 (RLD.of hW (RLI.fr hW0 hRL hF (by decide) (by decide)) hb_13 hM_526 hv15 (by omega) hc15 hv24 (Int32.not_lt.mp c_25))) (cwV 1 hg (gV wd_815 wd_816 wd_817 wd_737 wd_818) rfl rfl rfl (by decide +kernel) ⟨(Nat.le_trans (Nat.le_of_ble_eq_true rfl) hRf), (Nat.le_trans (Nat.le_of_ble_eq_true rfl) hRl)⟩) ⟨PG.blind, pg_recv hK hP hb_13.1 hM_526 rfl, fun U hU hW => ⟨rfl, PG.at hPc hK hDc hN hU hW⟩⟩ rfl rfl hl.1 rfl (lv_room (Nat.le_of_ble_eq_true rfl)) dX13_bear_230 ⟨(Nat.le_trans (Nat.le_of_ble_eq_true rfl) hRc), (Nat.le_trans (Nat.le_of_ble_eq_true rfl) hRs)⟩) hS (fun q _ h => hFc q h) hFc (fun r_535 M_536 t H_534 locs ht hvm hw hB hz1 hk1 hS => ?_)
                              have hp_537 := hw
                              obtain ⟨hP1, hD1⟩ := hB
                              rw [ht] at hP1
                              obtain ⟨hP, hD⟩ := va_joinP (X := [(za, .inr (13, [.int 0, .ref z1, .int (nI z2), .int (nI z3), .int z4, .int z5, .ref z6, .ref z7, .ref z8, .ref z9, .int (nI z10), .ref z11, .ref z12, .ref z13, .ref z14, .ref z15, .int (nI zgw36), .ref z17, .int z18, .ref z19]))]) (cx := []) (wr := [(za, .inr (13, [.int 0, .ref z1, .int (nI z2), .int (nI z3), .int z4, .int z5, .ref z6, .ref z7, .ref z8, .ref z9, .int (nI z10), .ref z11, .ref z12, .ref z13, .ref z14, .ref z15, .int (nI zgw36), .ref z17, .int z18, .ref z19]))]) (rx := []) (pl := va_pl L M_524) (pl1 := va_pl L M_524) hP hD [] [0] rfl rfl (by decide) (by decide) hk1 hFc hP1 hD1
                              have hP : va_P D vwCl ([(za, .inr (13, [.int 0, .ref z1, .int (nI z2), .int (nI z3), .int z4, .int z5, .ref z6, .ref z7, .ref z8, .ref z9, .int (nI z10), .ref z11, .ref z12, .ref z13, .ref z14, .ref z15, .int (nI zgw36), .ref z17, .int z18, .ref z19]))] ++ va_pl L M_524) H_534 := hP
                              have hD : va_D A ([(za, .inr (13, [.int 0, .ref z1, .int (nI z2), .int (nI z3), .int z4, .int z5, .ref z6, .ref z7, .ref z8, .ref z9, .int (nI z10), .ref z11, .ref z12, .ref z13, .ref z14, .ref z15, .int (nI zgw36), .ref z17, .int z18, .ref z19]))] ++ va_pl L M_524) := hD
                              obtain ⟨j_538, rfl, c_539⟩ := hp_537
                              refine lv_goto (tgt := 243) hx hb dX13_bear_233 (by decide) ?_
                              refine lv_iconst (v := 3) hx hb dX13_bear_243 (by decide) ?_
                              refine lv_aload hx hb dX13_bear_244 (lv_at hl 3 rfl) ?_
                              obtain ⟨v540, hv540, hc540⟩ : ∃ v : Nat, fs14[20]? = some (.ref v : Value) ∧ isk K L v 31 24 := hl14 20 (by decide)
                              refine pg_getN (D := D) (ci := 12) (v := .ref v540) (C := RX12) (T := TX12) (N := 51) hx hb hg inG12 hown hK hP hb_13.1 hM_526 rfl 20 (by decide) (hN.use (Cond.fieldLinkNest RX13 110 RX12 "where" "[I" RX13) 29 rfl rfl) (fun _ h9 => h9) hv540 dX13_bear_246 ?_
                              refine lv_iload hx hb dX13_bear_249 (lv_at hl 2 rfl) ?_
                              obtain ⟨f541, hM541, hf541⟩ := hW.open_31 hc540
                              have hi_542 : vp_in (nI v5w36) 24 := (inbN v5w36 24 (by omega) (by omega))
                              refine pg_iald hx hb hK hP hc540.1 0 hM541 rfl hi_542 dX13_bear_251 ?_
                              have hp_543 := hf541 _ (vp_lt hi_542)
                              obtain ⟨c_544, hc_545, ec_546⟩ := hp_543
                              rw [ec_546]
                              have hPc : va_P D vwCl ([] ++ va_pl L M_524) H_534 := hP.part (cx := []) [] rfl
                              have hDc : va_D A ([] ++ va_pl L M_524) := hD.part (cx := []) [] (by decide) rfl
                              have hFc : ∀ q, va_A ([] ++ va_pl L M_524) H_534.size q → A q := pg_free hDc hS hA
                              refine va_calli (va_runV (As := [.int (nI j_538), .int 3, .int (nI c_544)]) (rest := [.int (nI zgw36), .ref z12]) ⟨hx, hb, hml, hown, hg⟩ (r_X12_term l D cy K L M_524 H_534.size b11 j_538 3 c_544  hW hb_13 c_539 (by omega) hc_545) (cwV 3 hg (gV wd_770 wd_771 wd_772 wd_737 wd_773) rfl rfl rfl (by decide +kernel) ⟨(Nat.le_trans (Nat.le_of_ble_eq_true rfl) hRf), (Nat.le_trans (Nat.le_of_ble_eq_true rfl) hRl)⟩) ⟨PG.blind, pg_recv hK hP hb_13.1 hM_526 rfl, fun U hU hW => ⟨rfl, PG.at hPc hK hDc hN hU hW⟩⟩ rfl rfl hl.1 rfl (lv_room (Nat.le_of_ble_eq_true rfl)) dX13_bear_252 ⟨(Nat.le_trans (Nat.le_of_ble_eq_true rfl) hRc), (Nat.le_trans (Nat.le_of_ble_eq_true rfl) hRs)⟩) hS (fun q _ h => hFc q h) hFc (fun r_548 M_549 t H_547 locs ht hvm hw hB hz1 hk1 hS => ?_)
                              have hp_550 := hw
                              obtain ⟨hP1, hD1⟩ := hB
                              rw [ht] at hP1
                              obtain ⟨hP, hD⟩ := va_joinP (X := [(za, .inr (13, [.int 0, .ref z1, .int (nI z2), .int (nI z3), .int z4, .int z5, .ref z6, .ref z7, .ref z8, .ref z9, .int (nI z10), .ref z11, .ref z12, .ref z13, .ref z14, .ref z15, .int (nI zgw36), .ref z17, .int z18, .ref z19]))]) (cx := []) (wr := [(za, .inr (13, [.int 0, .ref z1, .int (nI z2), .int (nI z3), .int z4, .int z5, .ref z6, .ref z7, .ref z8, .ref z9, .int (nI z10), .ref z11, .ref z12, .ref z13, .ref z14, .ref z15, .int (nI zgw36), .ref z17, .int z18, .ref z19]))]) (rx := []) (pl := va_pl L M_524) (pl1 := va_pl L M_524) hP hD [] [0] rfl rfl (by decide) (by decide) hk1 hFc hP1 hD1
                              have hP : va_P D vwCl ([(za, .inr (13, [.int 0, .ref z1, .int (nI z2), .int (nI z3), .int z4, .int z5, .ref z6, .ref z7, .ref z8, .ref z9, .int (nI z10), .ref z11, .ref z12, .ref z13, .ref z14, .ref z15, .int (nI zgw36), .ref z17, .int z18, .ref z19]))] ++ va_pl L M_524) H_547 := hP
                              have hD : va_D A ([(za, .inr (13, [.int 0, .ref z1, .int (nI z2), .int (nI z3), .int z4, .int z5, .ref z6, .ref z7, .ref z8, .ref z9, .int (nI z10), .ref z11, .ref z12, .ref z13, .ref z14, .ref z15, .int (nI zgw36), .ref z17, .int z18, .ref z19]))] ++ va_pl L M_524) := hD
                              obtain ⟨f551, hM551⟩ := hW.open_14 i12
                              refine pg_iast hx hb hK hP hD hS i12.1 0 hM551 rfl (inbN zgw36 24 (by omega) (by omega)) dX13_bear_255 (fun H_552 locs hP hD hS => ?_)
                              obtain ⟨M_553, eM_553⟩ : ∃ M1 : Hp, M1 = va_up M_524 z12 (.inl (cy 14, 24, .inl (upd f551 ((nI zgw36) : Int32).toNatClampNeg r_548))) := ⟨_, rfl⟩
                              have hP : va_P D vwCl ([(za, .inr (13, [.int 0, .ref z1, .int (nI z2), .int (nI z3), .int z4, .int z5, .ref z6, .ref z7, .ref z8, .ref z9, .int (nI z10), .ref z11, .ref z12, .ref z13, .ref z14, .ref z15, .int (nI zgw36), .ref z17, .int z18, .ref z19]))] ++ va_pl L M_553) H_552 := by rw [eM_553]; exact hP
                              have hD : va_D A ([(za, .inr (13, [.int 0, .ref z1, .int (nI z2), .int (nI z3), .int z4, .int z5, .ref z6, .ref z7, .ref z8, .ref z9, .int (nI z10), .ref z11, .ref z12, .ref z13, .ref z14, .ref z15, .int (nI zgw36), .ref z17, .int z18, .ref z19]))] ++ va_pl L M_553) := by rw [eM_553]; exact hD
                              have hW : WOM cy K L M_553 := by rw [eM_553]; exact hW.up_14 i12 ⟨_, rfl⟩
                              have hF : fr K L [14, 15, 32] M M_553 := by rw [eM_553]; exact hF.up i12 (by decide)
                              have hM_554 : M_553 z12 = .inl (cy 14, 24, .inl (upd f551 ((nI zgw36) : Int32).toNatClampNeg r_548)) := by rw [eM_553]; exact va_up_self _ _ _
                              have hM_555 : M_553 z11 = .inl (cy 14, 24, .inl (f_531)) := by rw [eM_553, va_up_ne _ _ (i11.neT i12 (by decide))]; exact hM_525
                              have hM_556 : M_553 b11 = .inr (12, fs14) := by rw [eM_553, va_up_ne _ _ (hb_13.neT i12 (by decide))]; exact hM_526
                              have hM_557 : M_553 v109 = .inl (cy 14, 24, .inl (f110)) := by rw [eM_553, va_up_ne _ _ (hc109.neT i12 (by decide))]; exact hM_527
                              have hM_558 : M_553 v460 = .inl (cy 16, 24, .inl (f461)) := by rw [eM_553, va_up_ne _ _ (hc460.neT i12 (by decide))]; exact hM_530
                              have hM_559 : M_553 v540 = .inl (cy 14, 24, .inl (f541)) := by rw [eM_553, va_up_ne _ _ (hc540.neT i12 (by decide))]; exact hM541
                              obtain ⟨f_560, ef_560⟩ : ∃ f : Nat → Int32, f = upd f551 ((nI zgw36) : Int32).toNatClampNeg r_548 := ⟨_, rfl⟩
                              rw [← ef_560] at hM_554
                              clear ef_560
                              refine lv_aload_n hx hb dX13_bear_256 rfl (lv_at hl 4 rfl) ?_
                              refine va_get (D := D) (ci := 13) (v := .ref z13) (C := RX13) (T := TX13) (N := 20) hx hb hg inG13 hown hK hP 0 rfl rfl 13 (by decide) (hg _ wd_789) (fun _ h9 => h9) rfl dX13_bear_257 ?_
                              refine lv_aload_n hx hb dX13_bear_260 rfl (lv_at hl 4 rfl) ?_
                              refine va_get (D := D) (ci := 13) (v := .int (nI zgw36)) (C := RX13) (T := TX13) (N := 20) hx hb hg inG13 hown hK hP 0 rfl rfl 16 (by decide) (hg _ wd_769) (fun _ h9 => h9) rfl dX13_bear_261 ?_
                              refine lv_lconst (v := 0) hx hb dX13_bear_264 (by decide) ?_
                              obtain ⟨f561, hM561⟩ := hW.open_15 i13
                              refine pg_last hx hb hK hP hD hS i13.1 1 hM561 rfl (inbN zgw36 24 (by omega) (by omega)) dX13_bear_265 (fun H_562 locs hP hD hS => ?_)
                              obtain ⟨M_563, eM_563⟩ : ∃ M1 : Hp, M1 = va_up M_553 z13 (.inl (cy 15, 24, .inr (.inl (vp_updL f561 ((nI zgw36) : Int32).toNatClampNeg 0)))) := ⟨_, rfl⟩
                              have hP : va_P D vwCl ([(za, .inr (13, [.int 0, .ref z1, .int (nI z2), .int (nI z3), .int z4, .int z5, .ref z6, .ref z7, .ref z8, .ref z9, .int (nI z10), .ref z11, .ref z12, .ref z13, .ref z14, .ref z15, .int (nI zgw36), .ref z17, .int z18, .ref z19]))] ++ va_pl L M_563) H_562 := by rw [eM_563]; exact hP
                              have hD : va_D A ([(za, .inr (13, [.int 0, .ref z1, .int (nI z2), .int (nI z3), .int z4, .int z5, .ref z6, .ref z7, .ref z8, .ref z9, .int (nI z10), .ref z11, .ref z12, .ref z13, .ref z14, .ref z15, .int (nI zgw36), .ref z17, .int z18, .ref z19]))] ++ va_pl L M_563) := by rw [eM_563]; exact hD
                              have hW : WOM cy K L M_563 := by rw [eM_563]; exact hW.up_15 i13 ⟨_, rfl⟩
                              have hF : fr K L [14, 15, 32] M M_563 := by rw [eM_563]; exact hF.up i13 (by decide)
                              have hM_564 : M_563 z13 = .inl (cy 15, 24, .inr (.inl (vp_updL f561 ((nI zgw36) : Int32).toNatClampNeg 0))) := by rw [eM_563]; exact va_up_self _ _ _
                              have hM_565 : M_563 z12 = .inl (cy 14, 24, .inl (f_560)) := by rw [eM_563, va_up_ne _ _ (i12.neT i13 (by decide))]; exact hM_554
                              have hM_566 : M_563 z11 = .inl (cy 14, 24, .inl (f_531)) := by rw [eM_563, va_up_ne _ _ (i11.neT i13 (by decide))]; exact hM_555
                              have hM_567 : M_563 b11 = .inr (12, fs14) := by rw [eM_563, va_up_ne _ _ (hb_13.neT i13 (by decide))]; exact hM_556
                              have hM_568 : M_563 v109 = .inl (cy 14, 24, .inl (f110)) := by rw [eM_563, va_up_ne _ _ (hc109.neT i13 (by decide))]; exact hM_557
                              have hM_569 : M_563 v460 = .inl (cy 16, 24, .inl (f461)) := by rw [eM_563, va_up_ne _ _ (hc460.neT i13 (by decide))]; exact hM_558
                              have hM_570 : M_563 v540 = .inl (cy 14, 24, .inl (f541)) := by rw [eM_563, va_up_ne _ _ (hc540.neT i13 (by decide))]; exact hM_559
                              obtain ⟨f_571, ef_571⟩ : ∃ f : Nat → Int64, f = vp_updL f561 ((nI zgw36) : Int32).toNatClampNeg 0 := ⟨_, rfl⟩
                              rw [← ef_571] at hM_564
                              clear ef_571
                              refine lv_aload_n hx hb dX13_bear_266 rfl (lv_at hl 4 rfl) ?_
                              refine lv_dup hx hb dX13_bear_267 rfl ?_
                              refine va_get (D := D) (ci := 13) (v := .int (nI zgw36)) (C := RX13) (T := TX13) (N := 20) hx hb hg inG13 hown hK hP 0 rfl rfl 16 (by decide) (hg _ wd_769) (fun _ h9 => h9) rfl dX13_bear_268 ?_
                              refine lv_iconst (v := 1) hx hb dX13_bear_271 (by decide) ?_
                              refine lv_iadd hx hb dX13_bear_272 ?_
                              refine lv_topi (fun f_572 ef_572 => ?_)
                              obtain rfl : f_572 = (nI (zgw36 + 1)) := ef_572.trans (nI_add zgw36 1)
                              refine va_put (D := D) (ci := 13) (v := .int (nI (zgw36 + 1))) (ty := .int) (C := RX13) (T := TX13) (N := 20) hx hb hg inG13 tyX13 tyX13_ok nmX13 hown hK hP hD hS 0 rfl rfl 16 (by decide) (hg _ wd_769) (fun _ h9 => h9) rfl (by decide +kernel) rfl rfl (Nat.le_of_ble_eq_true rfl) dX13_bear_273 (fun H_573 locs hP hD hS => ?_)
                              have hP : va_P D vwCl ([(za, .inr (13, [.int 0, .ref z1, .int (nI z2), .int (nI z3), .int z4, .int z5, .ref z6, .ref z7, .ref z8, .ref z9, .int (nI z10), .ref z11, .ref z12, .ref z13, .ref z14, .ref z15, .int (nI (zgw36 + 1)), .ref z17, .int z18, .ref z19]))] ++ va_pl L M_563) H_573 := hP
                              have hD : va_D A ([(za, .inr (13, [.int 0, .ref z1, .int (nI z2), .int (nI z3), .int z4, .int z5, .ref z6, .ref z7, .ref z8, .ref z9, .int (nI z10), .ref z11, .ref z12, .ref z13, .ref z14, .ref z15, .int (nI (zgw36 + 1)), .ref z17, .int z18, .ref z19]))] ++ va_pl L M_563) := hD
                              refine lv_iinc (v := (nI (v5w36 + 1))) (lv' := [(5, .int (nI (v5w36 + 1))), (7, .int 0), (6, .int 1), (4, .ref b11), (0, .ref za), (1, .int k1), (2, .int k2), (3, .int k3)]) hx hb dX13_bear_276 hl (k := 2) rfl (nI_1 v5w36) (by decide) rfl (fun ls hl => ?_)
                              refine lv_goto (tgt := 82) hx hb dX13_bear_279 (by decide) ?_
                              exact ih_34 (v5w36 + 1) (zgw36 + 1) M_563 H_573 _ _ (by omega) hM_567 (by omega) (by omega) hW hF hP hD hS (lv_sub hl [0, 3, 4, 5, 6, 7] rfl)
                            · have hz := rfl (a := 0)
                              refine lv_iconst (v := 1) hx hb dX13_bear_181 (by decide) ?_
                              refine lv_goto (tgt := 186) hx hb dX13_bear_182 (by decide) ?_
                              refine lv_istore (lv' := [(7, .int 1), (6, .int 1), (5, .int (nI v5w36)), (4, .ref b11), (0, .ref za), (1, .int k1), (2, .int k2), (3, .int k3)]) hx hb dX13_bear_186 hl (by decide) rfl (fun ls hl => ?_)
                              refine lv_iload hx hb dX13_bear_188 (lv_at hl 1 rfl) ?_
                              refine lv_if_ne (tgt := 201) hx hb dX13_bear_190 (by decide) (fun _ => ?_) (fun c_574 => absurd c_574 (by decide))
                              refine lv_aload_n hx hb dX13_bear_201 rfl (lv_at hl 4 rfl) ?_
                              refine va_get (D := D) (ci := 13) (v := .ref z11) (C := RX13) (T := TX13) (N := 20) hx hb hg inG13 hown hK hP 0 rfl rfl 11 (by decide) (hg _ wd_764) (fun _ h9 => h9) rfl dX13_bear_202 ?_
                              refine lv_aload_n hx hb dX13_bear_205 rfl (lv_at hl 4 rfl) ?_
                              refine va_get (D := D) (ci := 13) (v := .int (nI zgw36)) (C := RX13) (T := TX13) (N := 20) hx hb hg inG13 hown hK hP 0 rfl rfl 16 (by decide) (hg _ wd_769) (fun _ h9 => h9) rfl dX13_bear_206 ?_
                              refine lv_iload hx hb dX13_bear_209 (lv_at hl 2 rfl) ?_
                              obtain ⟨f575, hM575, hf575⟩ := hW.open_32 i11
                              refine pg_iast hx hb hK hP hD hS i11.1 0 hM575 rfl (inbN zgw36 24 (by omega) (by omega)) dX13_bear_211 (fun H_576 locs hP hD hS => ?_)
                              obtain ⟨M_577, eM_577⟩ : ∃ M1 : Hp, M1 = va_up M_39 z11 (.inl (cy 14, 24, .inl (upd f575 ((nI zgw36) : Int32).toNatClampNeg (nI v5w36)))) := ⟨_, rfl⟩
                              have hP : va_P D vwCl ([(za, .inr (13, [.int 0, .ref z1, .int (nI z2), .int (nI z3), .int z4, .int z5, .ref z6, .ref z7, .ref z8, .ref z9, .int (nI z10), .ref z11, .ref z12, .ref z13, .ref z14, .ref z15, .int (nI zgw36), .ref z17, .int z18, .ref z19]))] ++ va_pl L M_577) H_576 := by rw [eM_577]; exact hP
                              have hD : va_D A ([(za, .inr (13, [.int 0, .ref z1, .int (nI z2), .int (nI z3), .int z4, .int z5, .ref z6, .ref z7, .ref z8, .ref z9, .int (nI z10), .ref z11, .ref z12, .ref z13, .ref z14, .ref z15, .int (nI zgw36), .ref z17, .int z18, .ref z19]))] ++ va_pl L M_577) := by rw [eM_577]; exact hD
                              have hW : WOM cy K L M_577 := by rw [eM_577]; exact hW.up_32 i11 ⟨_, rfl, (updP (P := fun z => ∃ c : Nat, c < 24 ∧ z = nI c) hf575 ⟨v5w36, by omega, rfl⟩)⟩
                              have hF : fr K L [14, 15, 32] M M_577 := by rw [eM_577]; exact hF.up i11 (by decide)
                              have hM_578 : M_577 z11 = .inl (cy 14, 24, .inl (upd f575 ((nI zgw36) : Int32).toNatClampNeg (nI v5w36))) := by rw [eM_577]; exact va_up_self _ _ _
                              have hM_579 : M_577 b11 = .inr (12, fs14) := by rw [eM_577, va_up_ne _ _ (hb_13.neT i11 (by decide))]; exact hM_41
                              have hM_580 : M_577 v109 = .inl (cy 14, 24, .inl (f110)) := by rw [eM_577, va_up_ne _ _ (hc109.neT i11 (by decide))]; exact hM110
                              have hM_581 : M_577 v335 = .inl (cy 14, 24, .inl (f336)) := by rw [eM_577, va_up_ne _ _ (hc335.neT i11 (by decide))]; exact hM336
                              have hM_582 : M_577 v406 = .inl (cy 14, 24, .inl (f407)) := by rw [eM_577, va_up_ne _ _ (hc406.neT i11 (by decide))]; exact hM407
                              have hM_583 : M_577 v460 = .inl (cy 16, 24, .inl (f461)) := by rw [eM_577, va_up_ne _ _ (hc460.neT i11 (by decide))]; exact hM461
                              have hf_585 : ∀ j, j < 24 → ∃ c : Nat, c < 24 ∧ (upd f575 ((nI zgw36) : Int32).toNatClampNeg (nI v5w36)) j = nI c := (updP (P := fun z => ∃ c : Nat, c < 24 ∧ z = nI c) hf575 ⟨v5w36, by omega, rfl⟩)
                              obtain ⟨f_584, ef_584⟩ : ∃ f : Nat → Int32, f = upd f575 ((nI zgw36) : Int32).toNatClampNeg (nI v5w36) := ⟨_, rfl⟩
                              rw [← ef_584] at hM_578 hf_585
                              clear ef_584
                              refine lv_aload_n hx hb dX13_bear_212 rfl (lv_at hl 4 rfl) ?_
                              refine va_get (D := D) (ci := 13) (v := .ref z12) (C := RX13) (T := TX13) (N := 20) hx hb hg inG13 hown hK hP 0 rfl rfl 12 (by decide) (hg _ wd_763) (fun _ h9 => h9) rfl dX13_bear_213 ?_
                              refine lv_aload_n hx hb dX13_bear_216 rfl (lv_at hl 4 rfl) ?_
                              refine va_get (D := D) (ci := 13) (v := .int (nI zgw36)) (C := RX13) (T := TX13) (N := 20) hx hb hg inG13 hown hK hP 0 rfl rfl 16 (by decide) (hg _ wd_769) (fun _ h9 => h9) rfl dX13_bear_217 ?_
                              refine lv_aload hx hb dX13_bear_220 (lv_at hl 3 rfl) ?_
                              refine lv_iload hx hb dX13_bear_222 (lv_at hl 1 rfl) ?_
                              refine lv_if_eq (tgt := 236) hx hb dX13_bear_224 (by decide) (fun c_586 => absurd c_586 (by decide)) (fun _ => ?_)
                              refine lv_aload hx hb dX13_bear_227 (lv_at hl 3 rfl) ?_
                              refine lv_iload_n hx hb dX13_bear_229 rfl (lv_at hl 6 rfl) ?_
                              have hPc : va_P D vwCl ([] ++ va_pl L M_577) H_576 := hP.part (cx := []) [] rfl
                              have hDc : va_D A ([] ++ va_pl L M_577) := hD.part (cx := []) [] (by decide) rfl
                              have hFc : ∀ q, va_A ([] ++ va_pl L M_577) H_576.size q → A q := pg_free hDc hS hA
                              refine va_calli (va_runV (As := [.int k2]) (rest := [.ref b11, .int (nI zgw36), .ref z12]) ⟨hx, hb, hml, hown, hg⟩ (r_ruleOnP l D cy K L M_577 H_576.size b11 k2  hW hb_13 (RLD.of hW (RLI.fr hW0 hRL hF (by decide) (by decide)) hb_13 hM_579 hv15 (by omega) hc15 hv24 (Int32.not_lt.mp c_25))) (cwV 1 hg (gV wd_815 wd_816 wd_817 wd_737 wd_818) rfl rfl rfl (by decide +kernel) ⟨(Nat.le_trans (Nat.le_of_ble_eq_true rfl) hRf), (Nat.le_trans (Nat.le_of_ble_eq_true rfl) hRl)⟩) ⟨PG.blind, pg_recv hK hP hb_13.1 hM_579 rfl, fun U hU hW => ⟨rfl, PG.at hPc hK hDc hN hU hW⟩⟩ rfl rfl hl.1 rfl (lv_room (Nat.le_of_ble_eq_true rfl)) dX13_bear_230 ⟨(Nat.le_trans (Nat.le_of_ble_eq_true rfl) hRc), (Nat.le_trans (Nat.le_of_ble_eq_true rfl) hRs)⟩) hS (fun q _ h => hFc q h) hFc (fun r_588 M_589 t H_587 locs ht hvm hw hB hz1 hk1 hS => ?_)
                              have hp_590 := hw
                              obtain ⟨hP1, hD1⟩ := hB
                              rw [ht] at hP1
                              obtain ⟨hP, hD⟩ := va_joinP (X := [(za, .inr (13, [.int 0, .ref z1, .int (nI z2), .int (nI z3), .int z4, .int z5, .ref z6, .ref z7, .ref z8, .ref z9, .int (nI z10), .ref z11, .ref z12, .ref z13, .ref z14, .ref z15, .int (nI zgw36), .ref z17, .int z18, .ref z19]))]) (cx := []) (wr := [(za, .inr (13, [.int 0, .ref z1, .int (nI z2), .int (nI z3), .int z4, .int z5, .ref z6, .ref z7, .ref z8, .ref z9, .int (nI z10), .ref z11, .ref z12, .ref z13, .ref z14, .ref z15, .int (nI zgw36), .ref z17, .int z18, .ref z19]))]) (rx := []) (pl := va_pl L M_577) (pl1 := va_pl L M_577) hP hD [] [0] rfl rfl (by decide) (by decide) hk1 hFc hP1 hD1
                              have hP : va_P D vwCl ([(za, .inr (13, [.int 0, .ref z1, .int (nI z2), .int (nI z3), .int z4, .int z5, .ref z6, .ref z7, .ref z8, .ref z9, .int (nI z10), .ref z11, .ref z12, .ref z13, .ref z14, .ref z15, .int (nI zgw36), .ref z17, .int z18, .ref z19]))] ++ va_pl L M_577) H_587 := hP
                              have hD : va_D A ([(za, .inr (13, [.int 0, .ref z1, .int (nI z2), .int (nI z3), .int z4, .int z5, .ref z6, .ref z7, .ref z8, .ref z9, .int (nI z10), .ref z11, .ref z12, .ref z13, .ref z14, .ref z15, .int (nI zgw36), .ref z17, .int z18, .ref z19]))] ++ va_pl L M_577) := hD
                              obtain ⟨j_591, rfl, c_592⟩ := hp_590
                              refine lv_goto (tgt := 243) hx hb dX13_bear_233 (by decide) ?_
                              refine lv_iconst (v := 3) hx hb dX13_bear_243 (by decide) ?_
                              refine lv_aload hx hb dX13_bear_244 (lv_at hl 3 rfl) ?_
                              obtain ⟨v593, hv593, hc593⟩ : ∃ v : Nat, fs14[20]? = some (.ref v : Value) ∧ isk K L v 31 24 := hl14 20 (by decide)
                              refine pg_getN (D := D) (ci := 12) (v := .ref v593) (C := RX12) (T := TX12) (N := 51) hx hb hg inG12 hown hK hP hb_13.1 hM_579 rfl 20 (by decide) (hN.use (Cond.fieldLinkNest RX13 110 RX12 "where" "[I" RX13) 29 rfl rfl) (fun _ h9 => h9) hv593 dX13_bear_246 ?_
                              refine lv_iload hx hb dX13_bear_249 (lv_at hl 2 rfl) ?_
                              obtain ⟨f594, hM594, hf594⟩ := hW.open_31 hc593
                              have hi_595 : vp_in (nI v5w36) 24 := (inbN v5w36 24 (by omega) (by omega))
                              refine pg_iald hx hb hK hP hc593.1 0 hM594 rfl hi_595 dX13_bear_251 ?_
                              have hp_596 := hf594 _ (vp_lt hi_595)
                              obtain ⟨c_597, hc_598, ec_599⟩ := hp_596
                              rw [ec_599]
                              have hPc : va_P D vwCl ([] ++ va_pl L M_577) H_587 := hP.part (cx := []) [] rfl
                              have hDc : va_D A ([] ++ va_pl L M_577) := hD.part (cx := []) [] (by decide) rfl
                              have hFc : ∀ q, va_A ([] ++ va_pl L M_577) H_587.size q → A q := pg_free hDc hS hA
                              refine va_calli (va_runV (As := [.int (nI j_591), .int 3, .int (nI c_597)]) (rest := [.int (nI zgw36), .ref z12]) ⟨hx, hb, hml, hown, hg⟩ (r_X12_term l D cy K L M_577 H_587.size b11 j_591 3 c_597  hW hb_13 c_592 (by omega) hc_598) (cwV 3 hg (gV wd_770 wd_771 wd_772 wd_737 wd_773) rfl rfl rfl (by decide +kernel) ⟨(Nat.le_trans (Nat.le_of_ble_eq_true rfl) hRf), (Nat.le_trans (Nat.le_of_ble_eq_true rfl) hRl)⟩) ⟨PG.blind, pg_recv hK hP hb_13.1 hM_579 rfl, fun U hU hW => ⟨rfl, PG.at hPc hK hDc hN hU hW⟩⟩ rfl rfl hl.1 rfl (lv_room (Nat.le_of_ble_eq_true rfl)) dX13_bear_252 ⟨(Nat.le_trans (Nat.le_of_ble_eq_true rfl) hRc), (Nat.le_trans (Nat.le_of_ble_eq_true rfl) hRs)⟩) hS (fun q _ h => hFc q h) hFc (fun r_601 M_602 t H_600 locs ht hvm hw hB hz1 hk1 hS => ?_)
                              have hp_603 := hw
                              obtain ⟨hP1, hD1⟩ := hB
                              rw [ht] at hP1
                              obtain ⟨hP, hD⟩ := va_joinP (X := [(za, .inr (13, [.int 0, .ref z1, .int (nI z2), .int (nI z3), .int z4, .int z5, .ref z6, .ref z7, .ref z8, .ref z9, .int (nI z10), .ref z11, .ref z12, .ref z13, .ref z14, .ref z15, .int (nI zgw36), .ref z17, .int z18, .ref z19]))]) (cx := []) (wr := [(za, .inr (13, [.int 0, .ref z1, .int (nI z2), .int (nI z3), .int z4, .int z5, .ref z6, .ref z7, .ref z8, .ref z9, .int (nI z10), .ref z11, .ref z12, .ref z13, .ref z14, .ref z15, .int (nI zgw36), .ref z17, .int z18, .ref z19]))]) (rx := []) (pl := va_pl L M_577) (pl1 := va_pl L M_577) hP hD [] [0] rfl rfl (by decide) (by decide) hk1 hFc hP1 hD1
                              have hP : va_P D vwCl ([(za, .inr (13, [.int 0, .ref z1, .int (nI z2), .int (nI z3), .int z4, .int z5, .ref z6, .ref z7, .ref z8, .ref z9, .int (nI z10), .ref z11, .ref z12, .ref z13, .ref z14, .ref z15, .int (nI zgw36), .ref z17, .int z18, .ref z19]))] ++ va_pl L M_577) H_600 := hP
                              have hD : va_D A ([(za, .inr (13, [.int 0, .ref z1, .int (nI z2), .int (nI z3), .int z4, .int z5, .ref z6, .ref z7, .ref z8, .ref z9, .int (nI z10), .ref z11, .ref z12, .ref z13, .ref z14, .ref z15, .int (nI zgw36), .ref z17, .int z18, .ref z19]))] ++ va_pl L M_577) := hD
                              obtain ⟨f604, hM604⟩ := hW.open_14 i12
                              refine pg_iast hx hb hK hP hD hS i12.1 0 hM604 rfl (inbN zgw36 24 (by omega) (by omega)) dX13_bear_255 (fun H_605 locs hP hD hS => ?_)
                              obtain ⟨M_606, eM_606⟩ : ∃ M1 : Hp, M1 = va_up M_577 z12 (.inl (cy 14, 24, .inl (upd f604 ((nI zgw36) : Int32).toNatClampNeg r_601))) := ⟨_, rfl⟩
                              have hP : va_P D vwCl ([(za, .inr (13, [.int 0, .ref z1, .int (nI z2), .int (nI z3), .int z4, .int z5, .ref z6, .ref z7, .ref z8, .ref z9, .int (nI z10), .ref z11, .ref z12, .ref z13, .ref z14, .ref z15, .int (nI zgw36), .ref z17, .int z18, .ref z19]))] ++ va_pl L M_606) H_605 := by rw [eM_606]; exact hP
                              have hD : va_D A ([(za, .inr (13, [.int 0, .ref z1, .int (nI z2), .int (nI z3), .int z4, .int z5, .ref z6, .ref z7, .ref z8, .ref z9, .int (nI z10), .ref z11, .ref z12, .ref z13, .ref z14, .ref z15, .int (nI zgw36), .ref z17, .int z18, .ref z19]))] ++ va_pl L M_606) := by rw [eM_606]; exact hD
                              have hW : WOM cy K L M_606 := by rw [eM_606]; exact hW.up_14 i12 ⟨_, rfl⟩
                              have hF : fr K L [14, 15, 32] M M_606 := by rw [eM_606]; exact hF.up i12 (by decide)
                              have hM_607 : M_606 z12 = .inl (cy 14, 24, .inl (upd f604 ((nI zgw36) : Int32).toNatClampNeg r_601)) := by rw [eM_606]; exact va_up_self _ _ _
                              have hM_608 : M_606 z11 = .inl (cy 14, 24, .inl (f_584)) := by rw [eM_606, va_up_ne _ _ (i11.neT i12 (by decide))]; exact hM_578
                              have hM_609 : M_606 b11 = .inr (12, fs14) := by rw [eM_606, va_up_ne _ _ (hb_13.neT i12 (by decide))]; exact hM_579
                              have hM_610 : M_606 v109 = .inl (cy 14, 24, .inl (f110)) := by rw [eM_606, va_up_ne _ _ (hc109.neT i12 (by decide))]; exact hM_580
                              have hM_611 : M_606 v460 = .inl (cy 16, 24, .inl (f461)) := by rw [eM_606, va_up_ne _ _ (hc460.neT i12 (by decide))]; exact hM_583
                              have hM_612 : M_606 v593 = .inl (cy 14, 24, .inl (f594)) := by rw [eM_606, va_up_ne _ _ (hc593.neT i12 (by decide))]; exact hM594
                              obtain ⟨f_613, ef_613⟩ : ∃ f : Nat → Int32, f = upd f604 ((nI zgw36) : Int32).toNatClampNeg r_601 := ⟨_, rfl⟩
                              rw [← ef_613] at hM_607
                              clear ef_613
                              refine lv_aload_n hx hb dX13_bear_256 rfl (lv_at hl 4 rfl) ?_
                              refine va_get (D := D) (ci := 13) (v := .ref z13) (C := RX13) (T := TX13) (N := 20) hx hb hg inG13 hown hK hP 0 rfl rfl 13 (by decide) (hg _ wd_789) (fun _ h9 => h9) rfl dX13_bear_257 ?_
                              refine lv_aload_n hx hb dX13_bear_260 rfl (lv_at hl 4 rfl) ?_
                              refine va_get (D := D) (ci := 13) (v := .int (nI zgw36)) (C := RX13) (T := TX13) (N := 20) hx hb hg inG13 hown hK hP 0 rfl rfl 16 (by decide) (hg _ wd_769) (fun _ h9 => h9) rfl dX13_bear_261 ?_
                              refine lv_lconst (v := 0) hx hb dX13_bear_264 (by decide) ?_
                              obtain ⟨f614, hM614⟩ := hW.open_15 i13
                              refine pg_last hx hb hK hP hD hS i13.1 1 hM614 rfl (inbN zgw36 24 (by omega) (by omega)) dX13_bear_265 (fun H_615 locs hP hD hS => ?_)
                              obtain ⟨M_616, eM_616⟩ : ∃ M1 : Hp, M1 = va_up M_606 z13 (.inl (cy 15, 24, .inr (.inl (vp_updL f614 ((nI zgw36) : Int32).toNatClampNeg 0)))) := ⟨_, rfl⟩
                              have hP : va_P D vwCl ([(za, .inr (13, [.int 0, .ref z1, .int (nI z2), .int (nI z3), .int z4, .int z5, .ref z6, .ref z7, .ref z8, .ref z9, .int (nI z10), .ref z11, .ref z12, .ref z13, .ref z14, .ref z15, .int (nI zgw36), .ref z17, .int z18, .ref z19]))] ++ va_pl L M_616) H_615 := by rw [eM_616]; exact hP
                              have hD : va_D A ([(za, .inr (13, [.int 0, .ref z1, .int (nI z2), .int (nI z3), .int z4, .int z5, .ref z6, .ref z7, .ref z8, .ref z9, .int (nI z10), .ref z11, .ref z12, .ref z13, .ref z14, .ref z15, .int (nI zgw36), .ref z17, .int z18, .ref z19]))] ++ va_pl L M_616) := by rw [eM_616]; exact hD
                              have hW : WOM cy K L M_616 := by rw [eM_616]; exact hW.up_15 i13 ⟨_, rfl⟩
                              have hF : fr K L [14, 15, 32] M M_616 := by rw [eM_616]; exact hF.up i13 (by decide)
                              have hM_617 : M_616 z13 = .inl (cy 15, 24, .inr (.inl (vp_updL f614 ((nI zgw36) : Int32).toNatClampNeg 0))) := by rw [eM_616]; exact va_up_self _ _ _
                              have hM_618 : M_616 z12 = .inl (cy 14, 24, .inl (f_613)) := by rw [eM_616, va_up_ne _ _ (i12.neT i13 (by decide))]; exact hM_607
                              have hM_619 : M_616 z11 = .inl (cy 14, 24, .inl (f_584)) := by rw [eM_616, va_up_ne _ _ (i11.neT i13 (by decide))]; exact hM_608
                              have hM_620 : M_616 b11 = .inr (12, fs14) := by rw [eM_616, va_up_ne _ _ (hb_13.neT i13 (by decide))]; exact hM_609
                              have hM_621 : M_616 v109 = .inl (cy 14, 24, .inl (f110)) := by rw [eM_616, va_up_ne _ _ (hc109.neT i13 (by decide))]; exact hM_610
                              have hM_622 : M_616 v460 = .inl (cy 16, 24, .inl (f461)) := by rw [eM_616, va_up_ne _ _ (hc460.neT i13 (by decide))]; exact hM_611
                              have hM_623 : M_616 v593 = .inl (cy 14, 24, .inl (f594)) := by rw [eM_616, va_up_ne _ _ (hc593.neT i13 (by decide))]; exact hM_612
                              obtain ⟨f_624, ef_624⟩ : ∃ f : Nat → Int64, f = vp_updL f614 ((nI zgw36) : Int32).toNatClampNeg 0 := ⟨_, rfl⟩
                              rw [← ef_624] at hM_617
                              clear ef_624
                              refine lv_aload_n hx hb dX13_bear_266 rfl (lv_at hl 4 rfl) ?_
                              refine lv_dup hx hb dX13_bear_267 rfl ?_
                              refine va_get (D := D) (ci := 13) (v := .int (nI zgw36)) (C := RX13) (T := TX13) (N := 20) hx hb hg inG13 hown hK hP 0 rfl rfl 16 (by decide) (hg _ wd_769) (fun _ h9 => h9) rfl dX13_bear_268 ?_
                              refine lv_iconst (v := 1) hx hb dX13_bear_271 (by decide) ?_
                              refine lv_iadd hx hb dX13_bear_272 ?_
                              refine lv_topi (fun f_625 ef_625 => ?_)
                              obtain rfl : f_625 = (nI (zgw36 + 1)) := ef_625.trans (nI_add zgw36 1)
                              refine va_put (D := D) (ci := 13) (v := .int (nI (zgw36 + 1))) (ty := .int) (C := RX13) (T := TX13) (N := 20) hx hb hg inG13 tyX13 tyX13_ok nmX13 hown hK hP hD hS 0 rfl rfl 16 (by decide) (hg _ wd_769) (fun _ h9 => h9) rfl (by decide +kernel) rfl rfl (Nat.le_of_ble_eq_true rfl) dX13_bear_273 (fun H_626 locs hP hD hS => ?_)
                              have hP : va_P D vwCl ([(za, .inr (13, [.int 0, .ref z1, .int (nI z2), .int (nI z3), .int z4, .int z5, .ref z6, .ref z7, .ref z8, .ref z9, .int (nI z10), .ref z11, .ref z12, .ref z13, .ref z14, .ref z15, .int (nI (zgw36 + 1)), .ref z17, .int z18, .ref z19]))] ++ va_pl L M_616) H_626 := hP
                              have hD : va_D A ([(za, .inr (13, [.int 0, .ref z1, .int (nI z2), .int (nI z3), .int z4, .int z5, .ref z6, .ref z7, .ref z8, .ref z9, .int (nI z10), .ref z11, .ref z12, .ref z13, .ref z14, .ref z15, .int (nI (zgw36 + 1)), .ref z17, .int z18, .ref z19]))] ++ va_pl L M_616) := hD
                              refine lv_iinc (v := (nI (v5w36 + 1))) (lv' := [(5, .int (nI (v5w36 + 1))), (7, .int 1), (6, .int 1), (4, .ref b11), (0, .ref za), (1, .int k1), (2, .int k2), (3, .int k3)]) hx hb dX13_bear_276 hl (k := 2) rfl (nI_1 v5w36) (by decide) rfl (fun ls hl => ?_)
                              refine lv_goto (tgt := 82) hx hb dX13_bear_279 (by decide) ?_
                              exact ih_34 (v5w36 + 1) (zgw36 + 1) M_616 H_626 _ _ (by omega) hM_620 (by omega) (by omega) hW hF hP hD hS (lv_sub hl [0, 3, 4, 5, 6, 7] rfl)
                  · have hz := rfl (a := 0)
                    refine lv_if_eq (tgt := 143) hx hb dX13_bear_100 (by decide) (fun _ => ?_) (fun c_627 => absurd c_627 (by decide))
                    refine lv_iconst (v := 0) hx hb dX13_bear_143 (by decide) ?_
                    refine lv_istore (lv' := [(6, .int 0), (5, .int (nI v5w36)), (4, .ref b11), (0, .ref za), (1, .int k1), (2, .int k2), (3, .int k3)]) hx hb dX13_bear_144 hl (by decide) rfl (fun ls hl => ?_)
                    refine lv_aload hx hb dX13_bear_146 (lv_at hl 2 rfl) ?_
                    obtain ⟨v628, hv628, hc628⟩ : ∃ v : Nat, fs14[21]? = some (.ref v : Value) ∧ isk K L v 14 24 := hl14 21 (by decide)
                    refine pg_getN (D := D) (ci := 12) (v := .ref v628) (C := RX12) (T := TX12) (N := 51) hx hb hg inG12 hown hK hP hb_13.1 hM_41 rfl 21 (by decide) (hN.use (Cond.fieldLinkNest RX13 112 RX12 "begin" "[I" RX13) 30 rfl rfl) (fun _ h9 => h9) hv628 dX13_bear_148 ?_
                    refine lv_iload hx hb dX13_bear_151 (lv_at hl 1 rfl) ?_
                    obtain ⟨f629, hM629⟩ := hW.open_14 hc628
                    refine pg_iald hx hb hK hP hc628.1 0 hM629 rfl (inbN v5w36 24 (by omega) (by omega)) dX13_bear_153 ?_
                    refine lv_topi (fun f_630 ef_630 => ?_)
                    refine lv_iload_n hx hb dX13_bear_154 rfl (lv_at hl 5 rfl) ?_
                    refine lv_icmp_le (tgt := 185) hx hb dX13_bear_155 (by decide) (fun c_631 => ?_) (fun c_631 => ?_)
                    · have hz := rfl (a := 0)
                      refine lv_iconst (v := 0) hx hb dX13_bear_185 (by decide) ?_
                      refine lv_istore (lv' := [(7, .int 0), (6, .int 0), (5, .int (nI v5w36)), (4, .ref b11), (0, .ref za), (1, .int k1), (2, .int k2), (3, .int k3)]) hx hb dX13_bear_186 hl (by decide) rfl (fun ls hl => ?_)
                      refine lv_iload hx hb dX13_bear_188 (lv_at hl 1 rfl) ?_
                      refine lv_if_ne (tgt := 201) hx hb dX13_bear_190 (by decide) (fun c_632 => absurd c_632 (by decide)) (fun _ => ?_)
                      refine lv_iload hx hb dX13_bear_193 (lv_at hl 0 rfl) ?_
                      refine lv_if_ne (tgt := 201) hx hb dX13_bear_195 (by decide) (fun c_633 => absurd c_633 (by decide)) (fun _ => ?_)
                      refine lv_goto (tgt := 276) hx hb dX13_bear_198 (by decide) ?_
                      refine lv_iinc (v := (nI (v5w36 + 1))) (lv' := [(5, .int (nI (v5w36 + 1))), (7, .int 0), (6, .int 0), (4, .ref b11), (0, .ref za), (1, .int k1), (2, .int k2), (3, .int k3)]) hx hb dX13_bear_276 hl (k := 2) rfl (nI_1 v5w36) (by decide) rfl (fun ls hl => ?_)
                      refine lv_goto (tgt := 82) hx hb dX13_bear_279 (by decide) ?_
                      exact ih_34 (v5w36 + 1) zgw36 M_39 H_104 _ _ (by omega) hM_41 (by omega) (by omega) hW hF hP hD hS (lv_sub hl [0, 3, 4, 5, 6, 7] rfl)
                    · have hz := rfl (a := 0)
                      refine lv_aload hx hb dX13_bear_158 (lv_at hl 2 rfl) ?_
                      obtain ⟨v634, hv634, hc634⟩ : ∃ v : Nat, fs14[26]? = some (.ref v : Value) ∧ isk K L v 16 24 := hl14 26 (by decide)
                      refine pg_getN (D := D) (ci := 12) (v := .ref v634) (C := RX12) (T := TX12) (N := 51) hx hb hg inG12 hown hK hP hb_13.1 hM_41 rfl 26 (by decide) (hN.use (Cond.fieldLinkNest RX13 124 RX12 "word" "[Z" RX13) 35 rfl rfl) (fun _ h9 => h9) hv634 dX13_bear_160 ?_
                      refine lv_iload hx hb dX13_bear_163 (lv_at hl 1 rfl) ?_
                      obtain ⟨f635, hM635, hf635⟩ := hW.open_16 hc634
                      have hi_636 : vp_in (nI v5w36) 24 := (inbN v5w36 24 (by omega) (by omega))
                      refine pg_zald hx hb hK hP hc634.1 2 hM635 rfl hi_636 dX13_bear_165 ?_
                      rcases hf635 _ (vp_lt hi_636) with ec_637 | ec_637
                      · rw [ec_637]
                        refine lv_if_eq (tgt := 185) hx hb dX13_bear_166 (by decide) (fun _ => ?_) (fun c_638 => absurd c_638 (by decide))
                        refine lv_iconst (v := 0) hx hb dX13_bear_185 (by decide) ?_
                        refine lv_istore (lv' := [(7, .int 0), (6, .int 0), (5, .int (nI v5w36)), (4, .ref b11), (0, .ref za), (1, .int k1), (2, .int k2), (3, .int k3)]) hx hb dX13_bear_186 hl (by decide) rfl (fun ls hl => ?_)
                        refine lv_iload hx hb dX13_bear_188 (lv_at hl 1 rfl) ?_
                        refine lv_if_ne (tgt := 201) hx hb dX13_bear_190 (by decide) (fun c_639 => absurd c_639 (by decide)) (fun _ => ?_)
                        refine lv_iload hx hb dX13_bear_193 (lv_at hl 0 rfl) ?_
                        refine lv_if_ne (tgt := 201) hx hb dX13_bear_195 (by decide) (fun c_640 => absurd c_640 (by decide)) (fun _ => ?_)
                        refine lv_goto (tgt := 276) hx hb dX13_bear_198 (by decide) ?_
                        refine lv_iinc (v := (nI (v5w36 + 1))) (lv' := [(5, .int (nI (v5w36 + 1))), (7, .int 0), (6, .int 0), (4, .ref b11), (0, .ref za), (1, .int k1), (2, .int k2), (3, .int k3)]) hx hb dX13_bear_276 hl (k := 2) rfl (nI_1 v5w36) (by decide) rfl (fun ls hl => ?_)
                        refine lv_goto (tgt := 82) hx hb dX13_bear_279 (by decide) ?_
                        exact ih_34 (v5w36 + 1) zgw36 M_39 H_104 _ _ (by omega) hM_41 (by omega) (by omega) hW hF hP hD hS (lv_sub hl [0, 3, 4, 5, 6, 7] rfl)
                      · rw [ec_637]
                        refine lv_if_eq (tgt := 185) hx hb dX13_bear_166 (by decide) (fun c_641 => absurd c_641 (by decide)) (fun _ => ?_)
                        refine lv_aload hx hb dX13_bear_169 (lv_at hl 2 rfl) ?_
                        obtain ⟨v642, hv642, hc642⟩ : ∃ v : Nat, fs14[22]? = some (.ref v : Value) ∧ isk K L v 41 24 := hl14 22 (by decide)
                        refine pg_getN (D := D) (ci := 12) (v := .ref v642) (C := RX12) (T := TX12) (N := 51) hx hb hg inG12 hown hK hP hb_13.1 hM_41 rfl 22 (by decide) (hN.use (Cond.fieldLinkNest RX13 95 RX12 "ended" "[I" RX13) 31 rfl rfl) (fun _ h9 => h9) hv642 dX13_bear_171 ?_
                        refine lv_iload hx hb dX13_bear_174 (lv_at hl 1 rfl) ?_
                        obtain ⟨f643, hM643⟩ := hW.open_41 hc642
                        refine pg_iald hx hb hK hP hc642.1 0 hM643 rfl (inbN v5w36 24 (by omega) (by omega)) dX13_bear_176 ?_
                        refine lv_topi (fun f_644 ef_644 => ?_)
                        refine lv_iconst (v := (-1)) hx hb dX13_bear_177 (by decide) ?_
                        refine lv_icmp_ne (tgt := 185) hx hb dX13_bear_178 (by decide) (fun c_645 => ?_) (fun c_645 => ?_)
                        · have hz := rfl (a := 0)
                          refine lv_iconst (v := 0) hx hb dX13_bear_185 (by decide) ?_
                          refine lv_istore (lv' := [(7, .int 0), (6, .int 0), (5, .int (nI v5w36)), (4, .ref b11), (0, .ref za), (1, .int k1), (2, .int k2), (3, .int k3)]) hx hb dX13_bear_186 hl (by decide) rfl (fun ls hl => ?_)
                          refine lv_iload hx hb dX13_bear_188 (lv_at hl 1 rfl) ?_
                          refine lv_if_ne (tgt := 201) hx hb dX13_bear_190 (by decide) (fun c_646 => absurd c_646 (by decide)) (fun _ => ?_)
                          refine lv_iload hx hb dX13_bear_193 (lv_at hl 0 rfl) ?_
                          refine lv_if_ne (tgt := 201) hx hb dX13_bear_195 (by decide) (fun c_647 => absurd c_647 (by decide)) (fun _ => ?_)
                          refine lv_goto (tgt := 276) hx hb dX13_bear_198 (by decide) ?_
                          refine lv_iinc (v := (nI (v5w36 + 1))) (lv' := [(5, .int (nI (v5w36 + 1))), (7, .int 0), (6, .int 0), (4, .ref b11), (0, .ref za), (1, .int k1), (2, .int k2), (3, .int k3)]) hx hb dX13_bear_276 hl (k := 2) rfl (nI_1 v5w36) (by decide) rfl (fun ls hl => ?_)
                          refine lv_goto (tgt := 82) hx hb dX13_bear_279 (by decide) ?_
                          exact ih_34 (v5w36 + 1) zgw36 M_39 H_104 _ _ (by omega) hM_41 (by omega) (by omega) hW hF hP hD hS (lv_sub hl [0, 3, 4, 5, 6, 7] rfl)
                        · have hz := rfl (a := 0)
                          refine lv_iconst (v := 1) hx hb dX13_bear_181 (by decide) ?_
                          refine lv_goto (tgt := 186) hx hb dX13_bear_182 (by decide) ?_
                          refine lv_istore (lv' := [(7, .int 1), (6, .int 0), (5, .int (nI v5w36)), (4, .ref b11), (0, .ref za), (1, .int k1), (2, .int k2), (3, .int k3)]) hx hb dX13_bear_186 hl (by decide) rfl (fun ls hl => ?_)
                          refine lv_iload hx hb dX13_bear_188 (lv_at hl 1 rfl) ?_
                          refine lv_if_ne (tgt := 201) hx hb dX13_bear_190 (by decide) (fun c_648 => absurd c_648 (by decide)) (fun _ => ?_)
                          refine lv_iload hx hb dX13_bear_193 (lv_at hl 0 rfl) ?_
                          refine lv_if_ne (tgt := 201) hx hb dX13_bear_195 (by decide) (fun _ => ?_) (fun c_649 => absurd c_649 (by decide))
                          refine lv_aload_n hx hb dX13_bear_201 rfl (lv_at hl 4 rfl) ?_
                          refine va_get (D := D) (ci := 13) (v := .ref z11) (C := RX13) (T := TX13) (N := 20) hx hb hg inG13 hown hK hP 0 rfl rfl 11 (by decide) (hg _ wd_764) (fun _ h9 => h9) rfl dX13_bear_202 ?_
                          refine lv_aload_n hx hb dX13_bear_205 rfl (lv_at hl 4 rfl) ?_
                          refine va_get (D := D) (ci := 13) (v := .int (nI zgw36)) (C := RX13) (T := TX13) (N := 20) hx hb hg inG13 hown hK hP 0 rfl rfl 16 (by decide) (hg _ wd_769) (fun _ h9 => h9) rfl dX13_bear_206 ?_
                          refine lv_iload hx hb dX13_bear_209 (lv_at hl 2 rfl) ?_
                          obtain ⟨f650, hM650, hf650⟩ := hW.open_32 i11
                          refine pg_iast hx hb hK hP hD hS i11.1 0 hM650 rfl (inbN zgw36 24 (by omega) (by omega)) dX13_bear_211 (fun H_651 locs hP hD hS => ?_)
                          obtain ⟨M_652, eM_652⟩ : ∃ M1 : Hp, M1 = va_up M_39 z11 (.inl (cy 14, 24, .inl (upd f650 ((nI zgw36) : Int32).toNatClampNeg (nI v5w36)))) := ⟨_, rfl⟩
                          have hP : va_P D vwCl ([(za, .inr (13, [.int 0, .ref z1, .int (nI z2), .int (nI z3), .int z4, .int z5, .ref z6, .ref z7, .ref z8, .ref z9, .int (nI z10), .ref z11, .ref z12, .ref z13, .ref z14, .ref z15, .int (nI zgw36), .ref z17, .int z18, .ref z19]))] ++ va_pl L M_652) H_651 := by rw [eM_652]; exact hP
                          have hD : va_D A ([(za, .inr (13, [.int 0, .ref z1, .int (nI z2), .int (nI z3), .int z4, .int z5, .ref z6, .ref z7, .ref z8, .ref z9, .int (nI z10), .ref z11, .ref z12, .ref z13, .ref z14, .ref z15, .int (nI zgw36), .ref z17, .int z18, .ref z19]))] ++ va_pl L M_652) := by rw [eM_652]; exact hD
                          have hW : WOM cy K L M_652 := by rw [eM_652]; exact hW.up_32 i11 ⟨_, rfl, (updP (P := fun z => ∃ c : Nat, c < 24 ∧ z = nI c) hf650 ⟨v5w36, by omega, rfl⟩)⟩
                          have hF : fr K L [14, 15, 32] M M_652 := by rw [eM_652]; exact hF.up i11 (by decide)
                          have hM_653 : M_652 z11 = .inl (cy 14, 24, .inl (upd f650 ((nI zgw36) : Int32).toNatClampNeg (nI v5w36))) := by rw [eM_652]; exact va_up_self _ _ _
                          have hM_654 : M_652 b11 = .inr (12, fs14) := by rw [eM_652, va_up_ne _ _ (hb_13.neT i11 (by decide))]; exact hM_41
                          have hM_655 : M_652 v628 = .inl (cy 14, 24, .inl (f629)) := by rw [eM_652, va_up_ne _ _ (hc628.neT i11 (by decide))]; exact hM629
                          have hM_656 : M_652 v634 = .inl (cy 16, 24, .inl (f635)) := by rw [eM_652, va_up_ne _ _ (hc634.neT i11 (by decide))]; exact hM635
                          have hM_657 : M_652 v642 = .inl (cy 14, 24, .inl (f643)) := by rw [eM_652, va_up_ne _ _ (hc642.neT i11 (by decide))]; exact hM643
                          have hf_659 : ∀ j, j < 24 → ∃ c : Nat, c < 24 ∧ (upd f650 ((nI zgw36) : Int32).toNatClampNeg (nI v5w36)) j = nI c := (updP (P := fun z => ∃ c : Nat, c < 24 ∧ z = nI c) hf650 ⟨v5w36, by omega, rfl⟩)
                          obtain ⟨f_658, ef_658⟩ : ∃ f : Nat → Int32, f = upd f650 ((nI zgw36) : Int32).toNatClampNeg (nI v5w36) := ⟨_, rfl⟩
                          rw [← ef_658] at hM_653 hf_659
                          clear ef_658
                          refine lv_aload_n hx hb dX13_bear_212 rfl (lv_at hl 4 rfl) ?_
                          refine va_get (D := D) (ci := 13) (v := .ref z12) (C := RX13) (T := TX13) (N := 20) hx hb hg inG13 hown hK hP 0 rfl rfl 12 (by decide) (hg _ wd_763) (fun _ h9 => h9) rfl dX13_bear_213 ?_
                          refine lv_aload_n hx hb dX13_bear_216 rfl (lv_at hl 4 rfl) ?_
                          refine va_get (D := D) (ci := 13) (v := .int (nI zgw36)) (C := RX13) (T := TX13) (N := 20) hx hb hg inG13 hown hK hP 0 rfl rfl 16 (by decide) (hg _ wd_769) (fun _ h9 => h9) rfl dX13_bear_217 ?_
                          refine lv_aload hx hb dX13_bear_220 (lv_at hl 3 rfl) ?_
                          refine lv_iload hx hb dX13_bear_222 (lv_at hl 1 rfl) ?_
                          refine lv_if_eq (tgt := 236) hx hb dX13_bear_224 (by decide) (fun _ => ?_) (fun c_660 => absurd c_660 (by decide))
                          refine lv_aload hx hb dX13_bear_236 (lv_at hl 3 rfl) ?_
                          refine pg_getN (D := D) (ci := 12) (v := .int (nI v15)) (C := RX12) (T := TX12) (N := 51) hx hb hg inG12 hown hK hP hb_13.1 hM_654 rfl 11 (by decide) (hN.use (Cond.fieldLinkNest RX13 142 RX12 "rules" "I" RX13) 20 rfl rfl) (fun _ h9 => h9) hv15 dX13_bear_238 ?_
                          refine lv_iconst (v := 1) hx hb dX13_bear_241 (by decide) ?_
                          refine lv_isub hx hb dX13_bear_242 ?_
                          refine lv_topi (fun f_661 ef_661 => ?_)
                          obtain rfl : f_661 = (nI (v15 - 1)) := ef_661.trans (nI_prd (by omega))
                          refine lv_iconst (v := 3) hx hb dX13_bear_243 (by decide) ?_
                          refine lv_aload hx hb dX13_bear_244 (lv_at hl 3 rfl) ?_
                          obtain ⟨v662, hv662, hc662⟩ : ∃ v : Nat, fs14[20]? = some (.ref v : Value) ∧ isk K L v 31 24 := hl14 20 (by decide)
                          refine pg_getN (D := D) (ci := 12) (v := .ref v662) (C := RX12) (T := TX12) (N := 51) hx hb hg inG12 hown hK hP hb_13.1 hM_654 rfl 20 (by decide) (hN.use (Cond.fieldLinkNest RX13 110 RX12 "where" "[I" RX13) 29 rfl rfl) (fun _ h9 => h9) hv662 dX13_bear_246 ?_
                          refine lv_iload hx hb dX13_bear_249 (lv_at hl 2 rfl) ?_
                          obtain ⟨f663, hM663, hf663⟩ := hW.open_31 hc662
                          have hi_664 : vp_in (nI v5w36) 24 := (inbN v5w36 24 (by omega) (by omega))
                          refine pg_iald hx hb hK hP hc662.1 0 hM663 rfl hi_664 dX13_bear_251 ?_
                          have hp_665 := hf663 _ (vp_lt hi_664)
                          obtain ⟨c_666, hc_667, ec_668⟩ := hp_665
                          rw [ec_668]
                          have hPc : va_P D vwCl ([] ++ va_pl L M_652) H_651 := hP.part (cx := []) [] rfl
                          have hDc : va_D A ([] ++ va_pl L M_652) := hD.part (cx := []) [] (by decide) rfl
                          have hFc : ∀ q, va_A ([] ++ va_pl L M_652) H_651.size q → A q := pg_free hDc hS hA
                          refine va_calli (va_runV (As := [.int (nI (v15 - 1)), .int 3, .int (nI c_666)]) (rest := [.int (nI zgw36), .ref z12]) ⟨hx, hb, hml, hown, hg⟩ (r_X12_term l D cy K L M_652 H_651.size b11 (v15 - 1) 3 c_666  hW hb_13 (by omega) (by omega) hc_667) (cwV 3 hg (gV wd_770 wd_771 wd_772 wd_737 wd_773) rfl rfl rfl (by decide +kernel) ⟨(Nat.le_trans (Nat.le_of_ble_eq_true rfl) hRf), (Nat.le_trans (Nat.le_of_ble_eq_true rfl) hRl)⟩) ⟨PG.blind, pg_recv hK hP hb_13.1 hM_654 rfl, fun U hU hW => ⟨rfl, PG.at hPc hK hDc hN hU hW⟩⟩ rfl rfl hl.1 rfl (lv_room (Nat.le_of_ble_eq_true rfl)) dX13_bear_252 ⟨(Nat.le_trans (Nat.le_of_ble_eq_true rfl) hRc), (Nat.le_trans (Nat.le_of_ble_eq_true rfl) hRs)⟩) hS (fun q _ h => hFc q h) hFc (fun r_670 M_671 t H_669 locs ht hvm hw hB hz1 hk1 hS => ?_)
                          have hp_672 := hw
                          obtain ⟨hP1, hD1⟩ := hB
                          rw [ht] at hP1
                          obtain ⟨hP, hD⟩ := va_joinP (X := [(za, .inr (13, [.int 0, .ref z1, .int (nI z2), .int (nI z3), .int z4, .int z5, .ref z6, .ref z7, .ref z8, .ref z9, .int (nI z10), .ref z11, .ref z12, .ref z13, .ref z14, .ref z15, .int (nI zgw36), .ref z17, .int z18, .ref z19]))]) (cx := []) (wr := [(za, .inr (13, [.int 0, .ref z1, .int (nI z2), .int (nI z3), .int z4, .int z5, .ref z6, .ref z7, .ref z8, .ref z9, .int (nI z10), .ref z11, .ref z12, .ref z13, .ref z14, .ref z15, .int (nI zgw36), .ref z17, .int z18, .ref z19]))]) (rx := []) (pl := va_pl L M_652) (pl1 := va_pl L M_652) hP hD [] [0] rfl rfl (by decide) (by decide) hk1 hFc hP1 hD1
                          have hP : va_P D vwCl ([(za, .inr (13, [.int 0, .ref z1, .int (nI z2), .int (nI z3), .int z4, .int z5, .ref z6, .ref z7, .ref z8, .ref z9, .int (nI z10), .ref z11, .ref z12, .ref z13, .ref z14, .ref z15, .int (nI zgw36), .ref z17, .int z18, .ref z19]))] ++ va_pl L M_652) H_669 := hP
                          have hD : va_D A ([(za, .inr (13, [.int 0, .ref z1, .int (nI z2), .int (nI z3), .int z4, .int z5, .ref z6, .ref z7, .ref z8, .ref z9, .int (nI z10), .ref z11, .ref z12, .ref z13, .ref z14, .ref z15, .int (nI zgw36), .ref z17, .int z18, .ref z19]))] ++ va_pl L M_652) := hD
                          obtain ⟨f673, hM673⟩ := hW.open_14 i12
                          refine pg_iast hx hb hK hP hD hS i12.1 0 hM673 rfl (inbN zgw36 24 (by omega) (by omega)) dX13_bear_255 (fun H_674 locs hP hD hS => ?_)
                          obtain ⟨M_675, eM_675⟩ : ∃ M1 : Hp, M1 = va_up M_652 z12 (.inl (cy 14, 24, .inl (upd f673 ((nI zgw36) : Int32).toNatClampNeg r_670))) := ⟨_, rfl⟩
                          have hP : va_P D vwCl ([(za, .inr (13, [.int 0, .ref z1, .int (nI z2), .int (nI z3), .int z4, .int z5, .ref z6, .ref z7, .ref z8, .ref z9, .int (nI z10), .ref z11, .ref z12, .ref z13, .ref z14, .ref z15, .int (nI zgw36), .ref z17, .int z18, .ref z19]))] ++ va_pl L M_675) H_674 := by rw [eM_675]; exact hP
                          have hD : va_D A ([(za, .inr (13, [.int 0, .ref z1, .int (nI z2), .int (nI z3), .int z4, .int z5, .ref z6, .ref z7, .ref z8, .ref z9, .int (nI z10), .ref z11, .ref z12, .ref z13, .ref z14, .ref z15, .int (nI zgw36), .ref z17, .int z18, .ref z19]))] ++ va_pl L M_675) := by rw [eM_675]; exact hD
                          have hW : WOM cy K L M_675 := by rw [eM_675]; exact hW.up_14 i12 ⟨_, rfl⟩
                          have hF : fr K L [14, 15, 32] M M_675 := by rw [eM_675]; exact hF.up i12 (by decide)
                          have hM_676 : M_675 z12 = .inl (cy 14, 24, .inl (upd f673 ((nI zgw36) : Int32).toNatClampNeg r_670)) := by rw [eM_675]; exact va_up_self _ _ _
                          have hM_677 : M_675 z11 = .inl (cy 14, 24, .inl (f_658)) := by rw [eM_675, va_up_ne _ _ (i11.neT i12 (by decide))]; exact hM_653
                          have hM_678 : M_675 b11 = .inr (12, fs14) := by rw [eM_675, va_up_ne _ _ (hb_13.neT i12 (by decide))]; exact hM_654
                          have hM_679 : M_675 v634 = .inl (cy 16, 24, .inl (f635)) := by rw [eM_675, va_up_ne _ _ (hc634.neT i12 (by decide))]; exact hM_656
                          have hM_680 : M_675 v642 = .inl (cy 14, 24, .inl (f643)) := by rw [eM_675, va_up_ne _ _ (hc642.neT i12 (by decide))]; exact hM_657
                          have hM_681 : M_675 v662 = .inl (cy 14, 24, .inl (f663)) := by rw [eM_675, va_up_ne _ _ (hc662.neT i12 (by decide))]; exact hM663
                          obtain ⟨f_682, ef_682⟩ : ∃ f : Nat → Int32, f = upd f673 ((nI zgw36) : Int32).toNatClampNeg r_670 := ⟨_, rfl⟩
                          rw [← ef_682] at hM_676
                          clear ef_682
                          refine lv_aload_n hx hb dX13_bear_256 rfl (lv_at hl 4 rfl) ?_
                          refine va_get (D := D) (ci := 13) (v := .ref z13) (C := RX13) (T := TX13) (N := 20) hx hb hg inG13 hown hK hP 0 rfl rfl 13 (by decide) (hg _ wd_789) (fun _ h9 => h9) rfl dX13_bear_257 ?_
                          refine lv_aload_n hx hb dX13_bear_260 rfl (lv_at hl 4 rfl) ?_
                          refine va_get (D := D) (ci := 13) (v := .int (nI zgw36)) (C := RX13) (T := TX13) (N := 20) hx hb hg inG13 hown hK hP 0 rfl rfl 16 (by decide) (hg _ wd_769) (fun _ h9 => h9) rfl dX13_bear_261 ?_
                          refine lv_lconst (v := 0) hx hb dX13_bear_264 (by decide) ?_
                          obtain ⟨f683, hM683⟩ := hW.open_15 i13
                          refine pg_last hx hb hK hP hD hS i13.1 1 hM683 rfl (inbN zgw36 24 (by omega) (by omega)) dX13_bear_265 (fun H_684 locs hP hD hS => ?_)
                          obtain ⟨M_685, eM_685⟩ : ∃ M1 : Hp, M1 = va_up M_675 z13 (.inl (cy 15, 24, .inr (.inl (vp_updL f683 ((nI zgw36) : Int32).toNatClampNeg 0)))) := ⟨_, rfl⟩
                          have hP : va_P D vwCl ([(za, .inr (13, [.int 0, .ref z1, .int (nI z2), .int (nI z3), .int z4, .int z5, .ref z6, .ref z7, .ref z8, .ref z9, .int (nI z10), .ref z11, .ref z12, .ref z13, .ref z14, .ref z15, .int (nI zgw36), .ref z17, .int z18, .ref z19]))] ++ va_pl L M_685) H_684 := by rw [eM_685]; exact hP
                          have hD : va_D A ([(za, .inr (13, [.int 0, .ref z1, .int (nI z2), .int (nI z3), .int z4, .int z5, .ref z6, .ref z7, .ref z8, .ref z9, .int (nI z10), .ref z11, .ref z12, .ref z13, .ref z14, .ref z15, .int (nI zgw36), .ref z17, .int z18, .ref z19]))] ++ va_pl L M_685) := by rw [eM_685]; exact hD
                          have hW : WOM cy K L M_685 := by rw [eM_685]; exact hW.up_15 i13 ⟨_, rfl⟩
                          have hF : fr K L [14, 15, 32] M M_685 := by rw [eM_685]; exact hF.up i13 (by decide)
                          have hM_686 : M_685 z13 = .inl (cy 15, 24, .inr (.inl (vp_updL f683 ((nI zgw36) : Int32).toNatClampNeg 0))) := by rw [eM_685]; exact va_up_self _ _ _
                          have hM_687 : M_685 z12 = .inl (cy 14, 24, .inl (f_682)) := by rw [eM_685, va_up_ne _ _ (i12.neT i13 (by decide))]; exact hM_676
                          have hM_688 : M_685 z11 = .inl (cy 14, 24, .inl (f_658)) := by rw [eM_685, va_up_ne _ _ (i11.neT i13 (by decide))]; exact hM_677
                          have hM_689 : M_685 b11 = .inr (12, fs14) := by rw [eM_685, va_up_ne _ _ (hb_13.neT i13 (by decide))]; exact hM_678
                          have hM_690 : M_685 v634 = .inl (cy 16, 24, .inl (f635)) := by rw [eM_685, va_up_ne _ _ (hc634.neT i13 (by decide))]; exact hM_679
                          have hM_691 : M_685 v642 = .inl (cy 14, 24, .inl (f643)) := by rw [eM_685, va_up_ne _ _ (hc642.neT i13 (by decide))]; exact hM_680
                          have hM_692 : M_685 v662 = .inl (cy 14, 24, .inl (f663)) := by rw [eM_685, va_up_ne _ _ (hc662.neT i13 (by decide))]; exact hM_681
                          obtain ⟨f_693, ef_693⟩ : ∃ f : Nat → Int64, f = vp_updL f683 ((nI zgw36) : Int32).toNatClampNeg 0 := ⟨_, rfl⟩
                          rw [← ef_693] at hM_686
                          clear ef_693
                          refine lv_aload_n hx hb dX13_bear_266 rfl (lv_at hl 4 rfl) ?_
                          refine lv_dup hx hb dX13_bear_267 rfl ?_
                          refine va_get (D := D) (ci := 13) (v := .int (nI zgw36)) (C := RX13) (T := TX13) (N := 20) hx hb hg inG13 hown hK hP 0 rfl rfl 16 (by decide) (hg _ wd_769) (fun _ h9 => h9) rfl dX13_bear_268 ?_
                          refine lv_iconst (v := 1) hx hb dX13_bear_271 (by decide) ?_
                          refine lv_iadd hx hb dX13_bear_272 ?_
                          refine lv_topi (fun f_694 ef_694 => ?_)
                          obtain rfl : f_694 = (nI (zgw36 + 1)) := ef_694.trans (nI_add zgw36 1)
                          refine va_put (D := D) (ci := 13) (v := .int (nI (zgw36 + 1))) (ty := .int) (C := RX13) (T := TX13) (N := 20) hx hb hg inG13 tyX13 tyX13_ok nmX13 hown hK hP hD hS 0 rfl rfl 16 (by decide) (hg _ wd_769) (fun _ h9 => h9) rfl (by decide +kernel) rfl rfl (Nat.le_of_ble_eq_true rfl) dX13_bear_273 (fun H_695 locs hP hD hS => ?_)
                          have hP : va_P D vwCl ([(za, .inr (13, [.int 0, .ref z1, .int (nI z2), .int (nI z3), .int z4, .int z5, .ref z6, .ref z7, .ref z8, .ref z9, .int (nI z10), .ref z11, .ref z12, .ref z13, .ref z14, .ref z15, .int (nI (zgw36 + 1)), .ref z17, .int z18, .ref z19]))] ++ va_pl L M_685) H_695 := hP
                          have hD : va_D A ([(za, .inr (13, [.int 0, .ref z1, .int (nI z2), .int (nI z3), .int z4, .int z5, .ref z6, .ref z7, .ref z8, .ref z9, .int (nI z10), .ref z11, .ref z12, .ref z13, .ref z14, .ref z15, .int (nI (zgw36 + 1)), .ref z17, .int z18, .ref z19]))] ++ va_pl L M_685) := hD
                          refine lv_iinc (v := (nI (v5w36 + 1))) (lv' := [(5, .int (nI (v5w36 + 1))), (7, .int 1), (6, .int 0), (4, .ref b11), (0, .ref za), (1, .int k1), (2, .int k2), (3, .int k3)]) hx hb dX13_bear_276 hl (k := 2) rfl (nI_1 v5w36) (by decide) rfl (fun ls hl => ?_)
                          refine lv_goto (tgt := 82) hx hb dX13_bear_279 (by decide) ?_
                          exact ih_34 (v5w36 + 1) (zgw36 + 1) M_685 H_695 _ _ (by omega) hM_689 (by omega) (by omega) hW hF hP hD hS (lv_sub hl [0, 3, 4, 5, 6, 7] rfl)
            exact key_33 (24 - 0 + 1) 0 0 M H_32 _ _ (by omega) hM14 (by omega) (by omega) hW hF hP hD hS (lv_sub hl [0, 1, 2, 3, 4, 5] rfl)
          · have hz := rfl (a := 0)
            refine lv_aload_n hx hb dX13_bear_68 rfl (lv_at hl 1 rfl) ?_
            refine lv_iconst (v := 3) hx hb dX13_bear_69 (by decide) ?_
            have hPc := hP.sub (ws' := [(za, .inr (13, [.int 0, .ref z1, .int (nI z2), .int (nI z3), .int z4, .int z5, .ref z6, .ref z7, .ref z8, .ref z9, .int (nI z10), .ref z11, .ref z12, .ref z13, .ref z14, .ref z15, .int (nI z16), .ref z17, .int z18, .ref z19]))]) [0] rfl
            have hDc := hD.sub (ws' := [(za, .inr (13, [.int 0, .ref z1, .int (nI z2), .int (nI z3), .int z4, .int z5, .ref z6, .ref z7, .ref z8, .ref z9, .int (nI z10), .ref z11, .ref z12, .ref z13, .ref z14, .ref z15, .int (nI z16), .ref z17, .int z18, .ref z19]))]) [0] (by decide) rfl
            have hKc := hK.sub (tys' := []) [] rfl
            have hFc := va_free (wc := [(za, .inr (13, [.int 0, .ref z1, .int (nI z2), .int (nI z3), .int z4, .int z5, .ref z6, .ref z7, .ref z8, .ref z9, .int (nI z10), .ref z11, .ref z12, .ref z13, .ref z14, .ref z15, .int (nI z16), .ref z17, .int z18, .ref z19]))]) hD hS hA [0] rfl
            refine va_calli (va_runV (As := [.int 3]) (rest := []) ⟨hx, hb, hml, hown, hg⟩ (m_refused l D H_18.size za 0 z1 (nI z2) (nI z3) z4 z5 z6 z7 z8 z9 (nI z10) z11 z12 z13 z14 z15 (nI z16) z17 z18 z19 3) (cwV 1 hg (gV wd_725 wd_726 wd_727 wd_717 wd_728) rfl rfl rfl (by decide +kernel) ⟨(Nat.le_trans (Nat.le_of_ble_eq_true rfl) hRf), (Nat.le_trans (Nat.le_of_ble_eq_true rfl) hRl)⟩) ⟨Pr.blind, va_recv hK hP (ci := 13) (q0 := 0) rfl rfl, fun U hU hW => ⟨rfl, Pr.at hPc hKc hDc hN hU hW⟩⟩ rfl rfl hl.1 rfl (lv_room (Nat.le_of_ble_eq_true rfl)) dX13_bear_70 ⟨(Nat.le_trans (Nat.le_of_ble_eq_true rfl) hRc), (Nat.le_trans (Nat.le_of_ble_eq_true rfl) hRs)⟩) hS (fun q _ h => hFc q h) hFc (fun r_697 M_698 t H_696 locs ht hvm hw hB hz1 hk1 hS => ?_)
            have hp_699 := hw
            obtain ⟨hP1, hK1, hD1⟩ := hB
            rw [ht] at hP1
            obtain ⟨hP, hD⟩ := va_joinQ (X := [(za, .inr (13, [.int 0, .ref z1, .int (nI z2), .int (nI z3), .int z4, .int z5, .ref z6, .ref z7, .ref z8, .ref z9, .int (nI z10), .ref z11, .ref z12, .ref z13, .ref z14, .ref z15, .int (nI z16), .ref z17, .int z18, .ref z19]))]) (cx := [(za, .inr (13, [.int 0, .ref z1, .int (nI z2), .int (nI z3), .int z4, .int z5, .ref z6, .ref z7, .ref z8, .ref z9, .int (nI z10), .ref z11, .ref z12, .ref z13, .ref z14, .ref z15, .int (nI z16), .ref z17, .int z18, .ref z19]))]) (wr := []) (w1 := [(za, .inr (13, [.int 0, .ref z1, .int (nI z2), .int (nI z3), .int 3, .int (-1), .ref z6, .ref z7, .ref z8, .ref z9, .int (nI z10), .ref z11, .ref z12, .ref z13, .ref z14, .ref z15, .int (nI z16), .ref z17, .int z18, .ref z19]))]) (pl := va_pl L M) hP hD [0] [] rfl rfl (by decide) (by decide) hk1 hFc hP1 hD1
            have hP : va_P D vwCl ([(za, .inr (13, [.int 0, .ref z1, .int (nI z2), .int (nI z3), .int 3, .int (-1), .ref z6, .ref z7, .ref z8, .ref z9, .int (nI z10), .ref z11, .ref z12, .ref z13, .ref z14, .ref z15, .int (nI z16), .ref z17, .int z18, .ref z19]))] ++ va_pl L M) H_696 := hP
            have hD : va_D A ([(za, .inr (13, [.int 0, .ref z1, .int (nI z2), .int (nI z3), .int 3, .int (-1), .ref z6, .ref z7, .ref z8, .ref z9, .int (nI z10), .ref z11, .ref z12, .ref z13, .ref z14, .ref z15, .int (nI z16), .ref z17, .int z18, .ref z19]))] ++ va_pl L M) := hD
            have hq := Eq.symm hp_699
            subst hq
            rw [hQ]
            exact W.iret (v := (-1)) hx hb hr (fun t ht hW9 => ⟨⟨(-1), M, rfl, ⟨hW, hF, trivial⟩, ⟨3, (-1), z16, z18, (by omega), by rw [ht]; exact hP, hD⟩⟩, hS.F ht⟩) hS.2.2 dX13_bear_73
      · have hz := rfl (a := 0)
        refine lv_if_ne (tgt := 44) hx hb dX13_bear_35 (by decide) (fun c_700 => absurd c_700 (by decide)) (fun _ => ?_)
        refine lv_aload_n hx hb dX13_bear_38 rfl (lv_at hl 0 rfl) ?_
        refine lv_iconst (v := 2) hx hb dX13_bear_39 (by decide) ?_
        have hPc := hP.sub (ws' := [(za, .inr (13, [.int 0, .ref z1, .int (nI z2), .int (nI z3), .int z4, .int z5, .ref z6, .ref z7, .ref z8, .ref z9, .int (nI z10), .ref z11, .ref z12, .ref z13, .ref z14, .ref z15, .int (nI z16), .ref z17, .int z18, .ref z19]))]) [0] rfl
        have hDc := hD.sub (ws' := [(za, .inr (13, [.int 0, .ref z1, .int (nI z2), .int (nI z3), .int z4, .int z5, .ref z6, .ref z7, .ref z8, .ref z9, .int (nI z10), .ref z11, .ref z12, .ref z13, .ref z14, .ref z15, .int (nI z16), .ref z17, .int z18, .ref z19]))]) [0] (by decide) rfl
        have hKc := hK.sub (tys' := []) [] rfl
        have hFc := va_free (wc := [(za, .inr (13, [.int 0, .ref z1, .int (nI z2), .int (nI z3), .int z4, .int z5, .ref z6, .ref z7, .ref z8, .ref z9, .int (nI z10), .ref z11, .ref z12, .ref z13, .ref z14, .ref z15, .int (nI z16), .ref z17, .int z18, .ref z19]))]) hD hS hA [0] rfl
        refine va_calli (va_runV (As := [.int 2]) (rest := []) ⟨hx, hb, hml, hown, hg⟩ (m_refused l D H_18.size za 0 z1 (nI z2) (nI z3) z4 z5 z6 z7 z8 z9 (nI z10) z11 z12 z13 z14 z15 (nI z16) z17 z18 z19 2) (cwV 1 hg (gV wd_725 wd_726 wd_727 wd_717 wd_728) rfl rfl rfl (by decide +kernel) ⟨(Nat.le_trans (Nat.le_of_ble_eq_true rfl) hRf), (Nat.le_trans (Nat.le_of_ble_eq_true rfl) hRl)⟩) ⟨Pr.blind, va_recv hK hP (ci := 13) (q0 := 0) rfl rfl, fun U hU hW => ⟨rfl, Pr.at hPc hKc hDc hN hU hW⟩⟩ rfl rfl hl.1 rfl (lv_room (Nat.le_of_ble_eq_true rfl)) dX13_bear_40 ⟨(Nat.le_trans (Nat.le_of_ble_eq_true rfl) hRc), (Nat.le_trans (Nat.le_of_ble_eq_true rfl) hRs)⟩) hS (fun q _ h => hFc q h) hFc (fun r_702 M_703 t H_701 locs ht hvm hw hB hz1 hk1 hS => ?_)
        have hp_704 := hw
        obtain ⟨hP1, hK1, hD1⟩ := hB
        rw [ht] at hP1
        obtain ⟨hP, hD⟩ := va_joinQ (X := [(za, .inr (13, [.int 0, .ref z1, .int (nI z2), .int (nI z3), .int z4, .int z5, .ref z6, .ref z7, .ref z8, .ref z9, .int (nI z10), .ref z11, .ref z12, .ref z13, .ref z14, .ref z15, .int (nI z16), .ref z17, .int z18, .ref z19]))]) (cx := [(za, .inr (13, [.int 0, .ref z1, .int (nI z2), .int (nI z3), .int z4, .int z5, .ref z6, .ref z7, .ref z8, .ref z9, .int (nI z10), .ref z11, .ref z12, .ref z13, .ref z14, .ref z15, .int (nI z16), .ref z17, .int z18, .ref z19]))]) (wr := []) (w1 := [(za, .inr (13, [.int 0, .ref z1, .int (nI z2), .int (nI z3), .int 2, .int (-1), .ref z6, .ref z7, .ref z8, .ref z9, .int (nI z10), .ref z11, .ref z12, .ref z13, .ref z14, .ref z15, .int (nI z16), .ref z17, .int z18, .ref z19]))]) (pl := va_pl L M) hP hD [0] [] rfl rfl (by decide) (by decide) hk1 hFc hP1 hD1
        have hP : va_P D vwCl ([(za, .inr (13, [.int 0, .ref z1, .int (nI z2), .int (nI z3), .int 2, .int (-1), .ref z6, .ref z7, .ref z8, .ref z9, .int (nI z10), .ref z11, .ref z12, .ref z13, .ref z14, .ref z15, .int (nI z16), .ref z17, .int z18, .ref z19]))] ++ va_pl L M) H_701 := hP
        have hD : va_D A ([(za, .inr (13, [.int 0, .ref z1, .int (nI z2), .int (nI z3), .int 2, .int (-1), .ref z6, .ref z7, .ref z8, .ref z9, .int (nI z10), .ref z11, .ref z12, .ref z13, .ref z14, .ref z15, .int (nI z16), .ref z17, .int z18, .ref z19]))] ++ va_pl L M) := hD
        have hq := Eq.symm hp_704
        subst hq
        rw [hQ]
        exact W.iret (v := (-1)) hx hb hr (fun t ht hW9 => ⟨⟨(-1), M, rfl, ⟨hW, hF, trivial⟩, ⟨2, (-1), z16, z18, (by omega), by rw [ht]; exact hP, hD⟩⟩, hS.F ht⟩) hS.2.2 dX13_bear_43
    · have hz := rfl (a := 0)
      have n_705 : v15 = 0 := (iEQ (a := v15) (b := 0) (by omega) (by omega)).mp c_16
      refine lv_aload_n hx hb dX13_bear_25 rfl (lv_at hl 0 rfl) ?_
      refine lv_iconst (v := 1) hx hb dX13_bear_26 (by decide) ?_
      have hPc := hP.sub (ws' := [(za, .inr (13, [.int 0, .ref z1, .int (nI z2), .int (nI z3), .int z4, .int z5, .ref z6, .ref z7, .ref z8, .ref z9, .int (nI z10), .ref z11, .ref z12, .ref z13, .ref z14, .ref z15, .int (nI z16), .ref z17, .int z18, .ref z19]))]) [0] rfl
      have hDc := hD.sub (ws' := [(za, .inr (13, [.int 0, .ref z1, .int (nI z2), .int (nI z3), .int z4, .int z5, .ref z6, .ref z7, .ref z8, .ref z9, .int (nI z10), .ref z11, .ref z12, .ref z13, .ref z14, .ref z15, .int (nI z16), .ref z17, .int z18, .ref z19]))]) [0] (by decide) rfl
      have hKc := hK.sub (tys' := []) [] rfl
      have hFc := va_free (wc := [(za, .inr (13, [.int 0, .ref z1, .int (nI z2), .int (nI z3), .int z4, .int z5, .ref z6, .ref z7, .ref z8, .ref z9, .int (nI z10), .ref z11, .ref z12, .ref z13, .ref z14, .ref z15, .int (nI z16), .ref z17, .int z18, .ref z19]))]) hD hS hA [0] rfl
      refine va_calli (va_runV (As := [.int 1]) (rest := []) ⟨hx, hb, hml, hown, hg⟩ (m_refused l D H_2.size za 0 z1 (nI z2) (nI z3) z4 z5 z6 z7 z8 z9 (nI z10) z11 z12 z13 z14 z15 (nI z16) z17 z18 z19 1) (cwV 1 hg (gV wd_725 wd_726 wd_727 wd_717 wd_728) rfl rfl rfl (by decide +kernel) ⟨(Nat.le_trans (Nat.le_of_ble_eq_true rfl) hRf), (Nat.le_trans (Nat.le_of_ble_eq_true rfl) hRl)⟩) ⟨Pr.blind, va_recv hK hP (ci := 13) (q0 := 0) rfl rfl, fun U hU hW => ⟨rfl, Pr.at hPc hKc hDc hN hU hW⟩⟩ rfl rfl hl.1 rfl (lv_room (Nat.le_of_ble_eq_true rfl)) dX13_bear_27 ⟨(Nat.le_trans (Nat.le_of_ble_eq_true rfl) hRc), (Nat.le_trans (Nat.le_of_ble_eq_true rfl) hRs)⟩) hS (fun q _ h => hFc q h) hFc (fun r_707 M_708 t H_706 locs ht hvm hw hB hz1 hk1 hS => ?_)
      have hp_709 := hw
      obtain ⟨hP1, hK1, hD1⟩ := hB
      rw [ht] at hP1
      obtain ⟨hP, hD⟩ := va_joinQ (X := [(za, .inr (13, [.int 0, .ref z1, .int (nI z2), .int (nI z3), .int z4, .int z5, .ref z6, .ref z7, .ref z8, .ref z9, .int (nI z10), .ref z11, .ref z12, .ref z13, .ref z14, .ref z15, .int (nI z16), .ref z17, .int z18, .ref z19]))]) (cx := [(za, .inr (13, [.int 0, .ref z1, .int (nI z2), .int (nI z3), .int z4, .int z5, .ref z6, .ref z7, .ref z8, .ref z9, .int (nI z10), .ref z11, .ref z12, .ref z13, .ref z14, .ref z15, .int (nI z16), .ref z17, .int z18, .ref z19]))]) (wr := []) (w1 := [(za, .inr (13, [.int 0, .ref z1, .int (nI z2), .int (nI z3), .int 1, .int (-1), .ref z6, .ref z7, .ref z8, .ref z9, .int (nI z10), .ref z11, .ref z12, .ref z13, .ref z14, .ref z15, .int (nI z16), .ref z17, .int z18, .ref z19]))]) (pl := va_pl L M) hP hD [0] [] rfl rfl (by decide) (by decide) hk1 hFc hP1 hD1
      have hP : va_P D vwCl ([(za, .inr (13, [.int 0, .ref z1, .int (nI z2), .int (nI z3), .int 1, .int (-1), .ref z6, .ref z7, .ref z8, .ref z9, .int (nI z10), .ref z11, .ref z12, .ref z13, .ref z14, .ref z15, .int (nI z16), .ref z17, .int z18, .ref z19]))] ++ va_pl L M) H_706 := hP
      have hD : va_D A ([(za, .inr (13, [.int 0, .ref z1, .int (nI z2), .int (nI z3), .int 1, .int (-1), .ref z6, .ref z7, .ref z8, .ref z9, .int (nI z10), .ref z11, .ref z12, .ref z13, .ref z14, .ref z15, .int (nI z16), .ref z17, .int z18, .ref z19]))] ++ va_pl L M) := hD
      have hq := Eq.symm hp_709
      subst hq
      rw [hQ]
      exact W.iret (v := (-1)) hx hb hr (fun t ht hW9 => ⟨⟨(-1), M, rfl, ⟨hW, hF, trivial⟩, ⟨1, (-1), z16, z18, (by omega), by rw [ht]; exact hP, hD⟩⟩, hS.F ht⟩) hS.2.2 dX13_bear_30
  · have hz := rfl (a := 0)
    refine lv_if_eq (tgt := 25) hx hb dX13_bear_10 (by decide) (fun _ => ?_) (fun c_710 => absurd c_710 (by decide))
    refine lv_aload_n hx hb dX13_bear_25 rfl (lv_at hl 0 rfl) ?_
    refine lv_iconst (v := 1) hx hb dX13_bear_26 (by decide) ?_
    have hPc := hP.sub (ws' := [(za, .inr (13, [.int 0, .ref z1, .int (nI z2), .int (nI z3), .int z4, .int z5, .ref z6, .ref z7, .ref z8, .ref z9, .int (nI z10), .ref z11, .ref z12, .ref z13, .ref z14, .ref z15, .int (nI z16), .ref z17, .int z18, .ref z19]))]) [0] rfl
    have hDc := hD.sub (ws' := [(za, .inr (13, [.int 0, .ref z1, .int (nI z2), .int (nI z3), .int z4, .int z5, .ref z6, .ref z7, .ref z8, .ref z9, .int (nI z10), .ref z11, .ref z12, .ref z13, .ref z14, .ref z15, .int (nI z16), .ref z17, .int z18, .ref z19]))]) [0] (by decide) rfl
    have hKc := hK.sub (tys' := []) [] rfl
    have hFc := va_free (wc := [(za, .inr (13, [.int 0, .ref z1, .int (nI z2), .int (nI z3), .int z4, .int z5, .ref z6, .ref z7, .ref z8, .ref z9, .int (nI z10), .ref z11, .ref z12, .ref z13, .ref z14, .ref z15, .int (nI z16), .ref z17, .int z18, .ref z19]))]) hD hS hA [0] rfl
    refine va_calli (va_runV (As := [.int 1]) (rest := []) ⟨hx, hb, hml, hown, hg⟩ (m_refused l D H_2.size za 0 z1 (nI z2) (nI z3) z4 z5 z6 z7 z8 z9 (nI z10) z11 z12 z13 z14 z15 (nI z16) z17 z18 z19 1) (cwV 1 hg (gV wd_725 wd_726 wd_727 wd_717 wd_728) rfl rfl rfl (by decide +kernel) ⟨(Nat.le_trans (Nat.le_of_ble_eq_true rfl) hRf), (Nat.le_trans (Nat.le_of_ble_eq_true rfl) hRl)⟩) ⟨Pr.blind, va_recv hK hP (ci := 13) (q0 := 0) rfl rfl, fun U hU hW => ⟨rfl, Pr.at hPc hKc hDc hN hU hW⟩⟩ rfl rfl hl.1 rfl (lv_room (Nat.le_of_ble_eq_true rfl)) dX13_bear_27 ⟨(Nat.le_trans (Nat.le_of_ble_eq_true rfl) hRc), (Nat.le_trans (Nat.le_of_ble_eq_true rfl) hRs)⟩) hS (fun q _ h => hFc q h) hFc (fun r_712 M_713 t H_711 locs ht hvm hw hB hz1 hk1 hS => ?_)
    have hp_714 := hw
    obtain ⟨hP1, hK1, hD1⟩ := hB
    rw [ht] at hP1
    obtain ⟨hP, hD⟩ := va_joinQ (X := [(za, .inr (13, [.int 0, .ref z1, .int (nI z2), .int (nI z3), .int z4, .int z5, .ref z6, .ref z7, .ref z8, .ref z9, .int (nI z10), .ref z11, .ref z12, .ref z13, .ref z14, .ref z15, .int (nI z16), .ref z17, .int z18, .ref z19]))]) (cx := [(za, .inr (13, [.int 0, .ref z1, .int (nI z2), .int (nI z3), .int z4, .int z5, .ref z6, .ref z7, .ref z8, .ref z9, .int (nI z10), .ref z11, .ref z12, .ref z13, .ref z14, .ref z15, .int (nI z16), .ref z17, .int z18, .ref z19]))]) (wr := []) (w1 := [(za, .inr (13, [.int 0, .ref z1, .int (nI z2), .int (nI z3), .int 1, .int (-1), .ref z6, .ref z7, .ref z8, .ref z9, .int (nI z10), .ref z11, .ref z12, .ref z13, .ref z14, .ref z15, .int (nI z16), .ref z17, .int z18, .ref z19]))]) (pl := va_pl L M) hP hD [0] [] rfl rfl (by decide) (by decide) hk1 hFc hP1 hD1
    have hP : va_P D vwCl ([(za, .inr (13, [.int 0, .ref z1, .int (nI z2), .int (nI z3), .int 1, .int (-1), .ref z6, .ref z7, .ref z8, .ref z9, .int (nI z10), .ref z11, .ref z12, .ref z13, .ref z14, .ref z15, .int (nI z16), .ref z17, .int z18, .ref z19]))] ++ va_pl L M) H_711 := hP
    have hD : va_D A ([(za, .inr (13, [.int 0, .ref z1, .int (nI z2), .int (nI z3), .int 1, .int (-1), .ref z6, .ref z7, .ref z8, .ref z9, .int (nI z10), .ref z11, .ref z12, .ref z13, .ref z14, .ref z15, .int (nI z16), .ref z17, .int z18, .ref z19]))] ++ va_pl L M) := hD
    have hq := Eq.symm hp_714
    subst hq
    rw [hQ]
    exact W.iret (v := (-1)) hx hb hr (fun t ht hW9 => ⟨⟨(-1), M, rfl, ⟨hW, hF, trivial⟩, ⟨1, (-1), z16, z18, (by omega), by rw [ht]; exact hP, hD⟩⟩, hS.F ht⟩) hS.2.2 dX13_bear_30
