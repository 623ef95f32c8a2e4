theorem dX13_hidden_0 : decode cX13_hidden 0 = .ok (.aload_n 0, 1) := by decide +kernel
theorem dX13_hidden_1 : decode cX13_hidden 1 = .ok (.iconst 0, 1) := by decide +kernel
theorem dX13_hidden_2 : decode cX13_hidden 2 = .ok (.putfield 55, 3) := by decide +kernel
theorem dX13_hidden_5 : decode cX13_hidden 5 = .ok (.aload_n 0, 1) := by decide +kernel
theorem dX13_hidden_6 : decode cX13_hidden 6 = .ok (.iload_n 1, 1) := by decide +kernel
theorem dX13_hidden_7 : decode cX13_hidden 7 = .ok (.invokevirtual 64, 3) := by decide +kernel
theorem dX13_hidden_10 : decode cX13_hidden 10 = .ok (.ifCond .eq 15, 3) := by decide +kernel
theorem dX13_hidden_13 : decode cX13_hidden 13 = .ok (.aload_n 0, 1) := by decide +kernel
theorem dX13_hidden_14 : decode cX13_hidden 14 = .ok (.getfield 12, 3) := by decide +kernel
theorem dX13_hidden_17 : decode cX13_hidden 17 = .ok (.iload_n 1, 1) := by decide +kernel
theorem dX13_hidden_18 : decode cX13_hidden 18 = .ok (.aaload, 1) := by decide +kernel
theorem dX13_hidden_19 : decode cX13_hidden 19 = .ok (.getfield 142, 3) := by decide +kernel
theorem dX13_hidden_22 : decode cX13_hidden 22 = .ok (.ifCond .ne 9, 3) := by decide +kernel
theorem dX13_hidden_25 : decode cX13_hidden 25 = .ok (.aload_n 0, 1) := by decide +kernel
theorem dX13_hidden_26 : decode cX13_hidden 26 = .ok (.iconst 1, 1) := by decide +kernel
theorem dX13_hidden_27 : decode cX13_hidden 27 = .ok (.invokevirtual 73, 3) := by decide +kernel
theorem dX13_hidden_30 : decode cX13_hidden 30 = .ok (.ireturn, 1) := by decide +kernel
theorem dX13_hidden_31 : decode cX13_hidden 31 = .ok (.iload_n 3, 1) := by decide +kernel
theorem dX13_hidden_32 : decode cX13_hidden 32 = .ok (.invokestatic 164, 3) := by decide +kernel
theorem dX13_hidden_35 : decode cX13_hidden 35 = .ok (.ifCond .ne 9, 3) := by decide +kernel
theorem dX13_hidden_38 : decode cX13_hidden 38 = .ok (.aload_n 0, 1) := by decide +kernel
theorem dX13_hidden_39 : decode cX13_hidden 39 = .ok (.iconst 2, 1) := by decide +kernel
theorem dX13_hidden_40 : decode cX13_hidden 40 = .ok (.invokevirtual 73, 3) := by decide +kernel
theorem dX13_hidden_43 : decode cX13_hidden 43 = .ok (.ireturn, 1) := by decide +kernel
theorem dX13_hidden_44 : decode cX13_hidden 44 = .ok (.aload_n 0, 1) := by decide +kernel
theorem dX13_hidden_45 : decode cX13_hidden 45 = .ok (.getfield 12, 3) := by decide +kernel
theorem dX13_hidden_48 : decode cX13_hidden 48 = .ok (.iload_n 1, 1) := by decide +kernel
theorem dX13_hidden_49 : decode cX13_hidden 49 = .ok (.aaload, 1) := by decide +kernel
theorem dX13_hidden_50 : decode cX13_hidden 50 = .ok (.astore 4, 2) := by decide +kernel
theorem dX13_hidden_52 : decode cX13_hidden 52 = .ok (.iload_n 2, 1) := by decide +kernel
theorem dX13_hidden_53 : decode cX13_hidden 53 = .ok (.aload 4, 2) := by decide +kernel
theorem dX13_hidden_55 : decode cX13_hidden 55 = .ok (.getfield 77, 3) := by decide +kernel
theorem dX13_hidden_58 : decode cX13_hidden 58 = .ok (.if_icmp .lt 10, 3) := by decide +kernel
theorem dX13_hidden_61 : decode cX13_hidden 61 = .ok (.iload_n 2, 1) := by decide +kernel
theorem dX13_hidden_62 : decode cX13_hidden 62 = .ok (.sipush 1000, 3) := by decide +kernel
theorem dX13_hidden_65 : decode cX13_hidden 65 = .ok (.if_icmp .lt 9, 3) := by decide +kernel
theorem dX13_hidden_68 : decode cX13_hidden 68 = .ok (.aload_n 0, 1) := by decide +kernel
theorem dX13_hidden_69 : decode cX13_hidden 69 = .ok (.iconst 3, 1) := by decide +kernel
theorem dX13_hidden_70 : decode cX13_hidden 70 = .ok (.invokevirtual 73, 3) := by decide +kernel
theorem dX13_hidden_73 : decode cX13_hidden 73 = .ok (.ireturn, 1) := by decide +kernel
theorem dX13_hidden_74 : decode cX13_hidden 74 = .ok (.aload_n 0, 1) := by decide +kernel
theorem dX13_hidden_75 : decode cX13_hidden 75 = .ok (.aload 4, 2) := by decide +kernel
theorem dX13_hidden_77 : decode cX13_hidden 77 = .ok (.iload_n 2, 1) := by decide +kernel
theorem dX13_hidden_78 : decode cX13_hidden 78 = .ok (.invokevirtual 331, 3) := by decide +kernel
theorem dX13_hidden_81 : decode cX13_hidden 81 = .ok (.aload_n 0, 1) := by decide +kernel
theorem dX13_hidden_82 : decode cX13_hidden 82 = .ok (.aload 4, 2) := by decide +kernel
theorem dX13_hidden_84 : decode cX13_hidden 84 = .ok (.aload 4, 2) := by decide +kernel
theorem dX13_hidden_86 : decode cX13_hidden 86 = .ok (.iload_n 2, 1) := by decide +kernel
theorem dX13_hidden_87 : decode cX13_hidden 87 = .ok (.invokevirtual 321, 3) := by decide +kernel
theorem dX13_hidden_90 : decode cX13_hidden 90 = .ok (.iconst 2, 1) := by decide +kernel
theorem dX13_hidden_91 : decode cX13_hidden 91 = .ok (.invokevirtual 351, 3) := by decide +kernel
theorem dX13_hidden_94 : decode cX13_hidden 94 = .ok (.aload_n 0, 1) := by decide +kernel
theorem dX13_hidden_95 : decode cX13_hidden 95 = .ok (.iload_n 3, 1) := by decide +kernel
theorem dX13_hidden_96 : decode cX13_hidden 96 = .ok (.i2l, 1) := by decide +kernel
theorem dX13_hidden_97 : decode cX13_hidden 97 = .ok (.aload_n 0, 1) := by decide +kernel
theorem dX13_hidden_98 : decode cX13_hidden 98 = .ok (.getfield 39, 3) := by decide +kernel
theorem dX13_hidden_101 : decode cX13_hidden 101 = .ok (.iconst 0, 1) := by decide +kernel
theorem dX13_hidden_102 : decode cX13_hidden 102 = .ok (.aload 4, 2) := by decide +kernel
theorem dX13_hidden_104 : decode cX13_hidden 104 = .ok (.invokevirtual 226, 3) := by decide +kernel
theorem dX13_hidden_107 : decode cX13_hidden 107 = .ok (.ifCond .ne 9, 3) := by decide +kernel
theorem dX13_hidden_110 : decode cX13_hidden 110 = .ok (.aload_n 0, 1) := by decide +kernel
theorem dX13_hidden_111 : decode cX13_hidden 111 = .ok (.iconst 0, 1) := by decide +kernel
theorem dX13_hidden_112 : decode cX13_hidden 112 = .ok (.invokevirtual 86, 3) := by decide +kernel
theorem dX13_hidden_115 : decode cX13_hidden 115 = .ok (.ireturn, 1) := by decide +kernel
theorem dX13_hidden_116 : decode cX13_hidden 116 = .ok (.iconst 0, 1) := by decide +kernel
theorem dX13_hidden_117 : decode cX13_hidden 117 = .ok (.istore 5, 2) := by decide +kernel
theorem dX13_hidden_119 : decode cX13_hidden 119 = .ok (.iload 5, 2) := by decide +kernel
theorem dX13_hidden_121 : decode cX13_hidden 121 = .ok (.aload_n 0, 1) := by decide +kernel
theorem dX13_hidden_122 : decode cX13_hidden 122 = .ok (.getfield 213, 3) := by decide +kernel
theorem dX13_hidden_125 : decode cX13_hidden 125 = .ok (.if_icmp .ge 32, 3) := by decide +kernel
theorem dX13_hidden_128 : decode cX13_hidden 128 = .ok (.aload 4, 2) := by decide +kernel
theorem dX13_hidden_130 : decode cX13_hidden 130 = .ok (.getfield 370, 3) := by decide +kernel
theorem dX13_hidden_133 : decode cX13_hidden 133 = .ok (.aload_n 0, 1) := by decide +kernel
theorem dX13_hidden_134 : decode cX13_hidden 134 = .ok (.getfield 33, 3) := by decide +kernel
theorem dX13_hidden_137 : decode cX13_hidden 137 = .ok (.iload 5, 2) := by decide +kernel
theorem dX13_hidden_139 : decode cX13_hidden 139 = .ok (.iaload, 1) := by decide +kernel
theorem dX13_hidden_140 : decode cX13_hidden 140 = .ok (.dup2, 1) := by decide +kernel
theorem dX13_hidden_141 : decode cX13_hidden 141 = .ok (.laload, 1) := by decide +kernel
theorem dX13_hidden_142 : decode cX13_hidden 142 = .ok (.aload_n 0, 1) := by decide +kernel
theorem dX13_hidden_143 : decode cX13_hidden 143 = .ok (.getfield 39, 3) := by decide +kernel
theorem dX13_hidden_146 : decode cX13_hidden 146 = .ok (.iload 5, 2) := by decide +kernel
theorem dX13_hidden_148 : decode cX13_hidden 148 = .ok (.laload, 1) := by decide +kernel
theorem dX13_hidden_149 : decode cX13_hidden 149 = .ok (.ladd, 1) := by decide +kernel
theorem dX13_hidden_150 : decode cX13_hidden 150 = .ok (.lastore, 1) := by decide +kernel
theorem dX13_hidden_151 : decode cX13_hidden 151 = .ok (.iinc 5 1, 3) := by decide +kernel
theorem dX13_hidden_154 : decode cX13_hidden 154 = .ok (.goto (-35), 3) := by decide +kernel
theorem dX13_hidden_157 : decode cX13_hidden 157 = .ok (.aload_n 0, 1) := by decide +kernel
theorem dX13_hidden_158 : decode cX13_hidden 158 = .ok (.iload_n 3, 1) := by decide +kernel
theorem dX13_hidden_159 : decode cX13_hidden 159 = .ok (.invokevirtual 86, 3) := by decide +kernel
theorem dX13_hidden_162 : decode cX13_hidden 162 = .ok (.ireturn, 1) := by decide +kernel
theorem dX13_bear_0 : decode cX13_bear 0 = .ok (.aload_n 0, 1) := by decide +kernel
theorem dX13_bear_1 : decode cX13_bear 1 = .ok (.iconst 0, 1) := by decide +kernel
theorem dX13_bear_2 : decode cX13_bear 2 = .ok (.putfield 55, 3) := by decide +kernel
theorem dX13_bear_5 : decode cX13_bear 5 = .ok (.aload_n 0, 1) := by decide +kernel
theorem dX13_bear_6 : decode cX13_bear 6 = .ok (.iload_n 1, 1) := by decide +kernel
theorem dX13_bear_7 : decode cX13_bear 7 = .ok (.invokevirtual 64, 3) := by decide +kernel
theorem dX13_bear_10 : decode cX13_bear 10 = .ok (.ifCond .eq 15, 3) := by decide +kernel
theorem dX13_bear_13 : decode cX13_bear 13 = .ok (.aload_n 0, 1) := by decide +kernel
theorem dX13_bear_14 : decode cX13_bear 14 = .ok (.getfield 12, 3) := by decide +kernel
theorem dX13_bear_17 : decode cX13_bear 17 = .ok (.iload_n 1, 1) := by decide +kernel
theorem dX13_bear_18 : decode cX13_bear 18 = .ok (.aaload, 1) := by decide +kernel
theorem dX13_bear_19 : decode cX13_bear 19 = .ok (.getfield 142, 3) := by decide +kernel
theorem dX13_bear_22 : decode cX13_bear 22 = .ok (.ifCond .ne 9, 3) := by decide +kernel
theorem dX13_bear_25 : decode cX13_bear 25 = .ok (.aload_n 0, 1) := by decide +kernel
theorem dX13_bear_26 : decode cX13_bear 26 = .ok (.iconst 1, 1) := by decide +kernel
theorem dX13_bear_27 : decode cX13_bear 27 = .ok (.invokevirtual 73, 3) := by decide +kernel
theorem dX13_bear_30 : decode cX13_bear 30 = .ok (.ireturn, 1) := by decide +kernel
theorem dX13_bear_31 : decode cX13_bear 31 = .ok (.iload_n 3, 1) := by decide +kernel
theorem dX13_bear_32 : decode cX13_bear 32 = .ok (.invokestatic 164, 3) := by decide +kernel
theorem dX13_bear_35 : decode cX13_bear 35 = .ok (.ifCond .ne 9, 3) := by decide +kernel
theorem dX13_bear_38 : decode cX13_bear 38 = .ok (.aload_n 0, 1) := by decide +kernel
theorem dX13_bear_39 : decode cX13_bear 39 = .ok (.iconst 2, 1) := by decide +kernel
theorem dX13_bear_40 : decode cX13_bear 40 = .ok (.invokevirtual 73, 3) := by decide +kernel
theorem dX13_bear_43 : decode cX13_bear 43 = .ok (.ireturn, 1) := by decide +kernel
theorem dX13_bear_44 : decode cX13_bear 44 = .ok (.aload_n 0, 1) := by decide +kernel
theorem dX13_bear_45 : decode cX13_bear 45 = .ok (.getfield 12, 3) := by decide +kernel
theorem dX13_bear_48 : decode cX13_bear 48 = .ok (.iload_n 1, 1) := by decide +kernel
theorem dX13_bear_49 : decode cX13_bear 49 = .ok (.aaload, 1) := by decide +kernel
theorem dX13_bear_50 : decode cX13_bear 50 = .ok (.astore 4, 2) := by decide +kernel
theorem dX13_bear_52 : decode cX13_bear 52 = .ok (.iload_n 2, 1) := by decide +kernel
theorem dX13_bear_53 : decode cX13_bear 53 = .ok (.aload 4, 2) := by decide +kernel
theorem dX13_bear_55 : decode cX13_bear 55 = .ok (.getfield 77, 3) := by decide +kernel
theorem dX13_bear_58 : decode cX13_bear 58 = .ok (.if_icmp .lt 10, 3) := by decide +kernel
theorem dX13_bear_61 : decode cX13_bear 61 = .ok (.iload_n 2, 1) := by decide +kernel
theorem dX13_bear_62 : decode cX13_bear 62 = .ok (.sipush 1000, 3) := by decide +kernel
theorem dX13_bear_65 : decode cX13_bear 65 = .ok (.if_icmp .lt 9, 3) := by decide +kernel
theorem dX13_bear_68 : decode cX13_bear 68 = .ok (.aload_n 0, 1) := by decide +kernel
theorem dX13_bear_69 : decode cX13_bear 69 = .ok (.iconst 3, 1) := by decide +kernel
theorem dX13_bear_70 : decode cX13_bear 70 = .ok (.invokevirtual 73, 3) := by decide +kernel
theorem dX13_bear_73 : decode cX13_bear 73 = .ok (.ireturn, 1) := by decide +kernel
theorem dX13_bear_74 : decode cX13_bear 74 = .ok (.aload_n 0, 1) := by decide +kernel
theorem dX13_bear_75 : decode cX13_bear 75 = .ok (.iconst 0, 1) := by decide +kernel
theorem dX13_bear_76 : decode cX13_bear 76 = .ok (.putfield 213, 3) := by decide +kernel
theorem dX13_bear_79 : decode cX13_bear 79 = .ok (.iconst 0, 1) := by decide +kernel
theorem dX13_bear_80 : decode cX13_bear 80 = .ok (.istore 5, 2) := by decide +kernel
theorem dX13_bear_82 : decode cX13_bear 82 = .ok (.iload 5, 2) := by decide +kernel
theorem dX13_bear_84 : decode cX13_bear 84 = .ok (.aload 4, 2) := by decide +kernel
theorem dX13_bear_86 : decode cX13_bear 86 = .ok (.getfield 68, 3) := by decide +kernel
theorem dX13_bear_89 : decode cX13_bear 89 = .ok (.if_icmp .ge 193, 3) := by decide +kernel
theorem dX13_bear_92 : decode cX13_bear 92 = .ok (.aload 4, 2) := by decide +kernel
theorem dX13_bear_94 : decode cX13_bear 94 = .ok (.iload 5, 2) := by decide +kernel
theorem dX13_bear_96 : decode cX13_bear 96 = .ok (.iload_n 2, 1) := by decide +kernel
theorem dX13_bear_97 : decode cX13_bear 97 = .ok (.invokevirtual 190, 3) := by decide +kernel
theorem dX13_bear_100 : decode cX13_bear 100 = .ok (.ifCond .eq 43, 3) := by decide +kernel
theorem dX13_bear_103 : decode cX13_bear 103 = .ok (.aload 4, 2) := by decide +kernel
theorem dX13_bear_105 : decode cX13_bear 105 = .ok (.getfield 95, 3) := by decide +kernel
theorem dX13_bear_108 : decode cX13_bear 108 = .ok (.iload 5, 2) := by decide +kernel
theorem dX13_bear_110 : decode cX13_bear 110 = .ok (.iaload, 1) := by decide +kernel
theorem dX13_bear_111 : decode cX13_bear 111 = .ok (.iconst (-1), 1) := by decide +kernel
theorem dX13_bear_112 : decode cX13_bear 112 = .ok (.if_icmp .eq 27, 3) := by decide +kernel
theorem dX13_bear_115 : decode cX13_bear 115 = .ok (.aload 4, 2) := by decide +kernel
theorem dX13_bear_117 : decode cX13_bear 117 = .ok (.aload 4, 2) := by decide +kernel
theorem dX13_bear_119 : decode cX13_bear 119 = .ok (.getfield 95, 3) := by decide +kernel
theorem dX13_bear_122 : decode cX13_bear 122 = .ok (.iload 5, 2) := by decide +kernel
theorem dX13_bear_124 : decode cX13_bear 124 = .ok (.iaload, 1) := by decide +kernel
theorem dX13_bear_125 : decode cX13_bear 125 = .ok (.invokestatic 379, 3) := by decide +kernel
theorem dX13_bear_128 : decode cX13_bear 128 = .ok (.aload 4, 2) := by decide +kernel
theorem dX13_bear_130 : decode cX13_bear 130 = .ok (.getfield 118, 3) := by decide +kernel
theorem dX13_bear_133 : decode cX13_bear 133 = .ok (.iload 5, 2) := by decide +kernel
theorem dX13_bear_135 : decode cX13_bear 135 = .ok (.iaload, 1) := by decide +kernel
theorem dX13_bear_136 : decode cX13_bear 136 = .ok (.if_icmp .ge 7, 3) := by decide +kernel
theorem dX13_bear_139 : decode cX13_bear 139 = .ok (.iconst 1, 1) := by decide +kernel
theorem dX13_bear_140 : decode cX13_bear 140 = .ok (.goto 4, 3) := by decide +kernel
theorem dX13_bear_143 : decode cX13_bear 143 = .ok (.iconst 0, 1) := by decide +kernel
theorem dX13_bear_144 : decode cX13_bear 144 = .ok (.istore 6, 2) := by decide +kernel
theorem dX13_bear_146 : decode cX13_bear 146 = .ok (.aload 4, 2) := by decide +kernel
theorem dX13_bear_148 : decode cX13_bear 148 = .ok (.getfield 112, 3) := by decide +kernel
theorem dX13_bear_151 : decode cX13_bear 151 = .ok (.iload 5, 2) := by decide +kernel
theorem dX13_bear_153 : decode cX13_bear 153 = .ok (.iaload, 1) := by decide +kernel
theorem dX13_bear_154 : decode cX13_bear 154 = .ok (.iload_n 2, 1) := by decide +kernel
theorem dX13_bear_155 : decode cX13_bear 155 = .ok (.if_icmp .le 30, 3) := by decide +kernel
theorem dX13_bear_158 : decode cX13_bear 158 = .ok (.aload 4, 2) := by decide +kernel
theorem dX13_bear_160 : decode cX13_bear 160 = .ok (.getfield 124, 3) := by decide +kernel
theorem dX13_bear_163 : decode cX13_bear 163 = .ok (.iload 5, 2) := by decide +kernel
theorem dX13_bear_165 : decode cX13_bear 165 = .ok (.baload, 1) := by decide +kernel
theorem dX13_bear_166 : decode cX13_bear 166 = .ok (.ifCond .eq 19, 3) := by decide +kernel
theorem dX13_bear_169 : decode cX13_bear 169 = .ok (.aload 4, 2) := by decide +kernel
theorem dX13_bear_171 : decode cX13_bear 171 = .ok (.getfield 95, 3) := by decide +kernel
theorem dX13_bear_174 : decode cX13_bear 174 = .ok (.iload 5, 2) := by decide +kernel
theorem dX13_bear_176 : decode cX13_bear 176 = .ok (.iaload, 1) := by decide +kernel
theorem dX13_bear_177 : decode cX13_bear 177 = .ok (.iconst (-1), 1) := by decide +kernel
theorem dX13_bear_178 : decode cX13_bear 178 = .ok (.if_icmp .ne 7, 3) := by decide +kernel
theorem dX13_bear_181 : decode cX13_bear 181 = .ok (.iconst 1, 1) := by decide +kernel
theorem dX13_bear_182 : decode cX13_bear 182 = .ok (.goto 4, 3) := by decide +kernel
theorem dX13_bear_185 : decode cX13_bear 185 = .ok (.iconst 0, 1) := by decide +kernel
theorem dX13_bear_186 : decode cX13_bear 186 = .ok (.istore 7, 2) := by decide +kernel
theorem dX13_bear_188 : decode cX13_bear 188 = .ok (.iload 6, 2) := by decide +kernel
theorem dX13_bear_190 : decode cX13_bear 190 = .ok (.ifCond .ne 11, 3) := by decide +kernel
theorem dX13_bear_193 : decode cX13_bear 193 = .ok (.iload 7, 2) := by decide +kernel
theorem dX13_bear_195 : decode cX13_bear 195 = .ok (.ifCond .ne 6, 3) := by decide +kernel
theorem dX13_bear_198 : decode cX13_bear 198 = .ok (.goto 78, 3) := by decide +kernel
theorem dX13_bear_201 : decode cX13_bear 201 = .ok (.aload_n 0, 1) := by decide +kernel
theorem dX13_bear_202 : decode cX13_bear 202 = .ok (.getfield 33, 3) := by decide +kernel
theorem dX13_bear_205 : decode cX13_bear 205 = .ok (.aload_n 0, 1) := by decide +kernel
theorem dX13_bear_206 : decode cX13_bear 206 = .ok (.getfield 213, 3) := by decide +kernel
theorem dX13_bear_209 : decode cX13_bear 209 = .ok (.iload 5, 2) := by decide +kernel
theorem dX13_bear_211 : decode cX13_bear 211 = .ok (.iastore, 1) := by decide +kernel
theorem dX13_bear_212 : decode cX13_bear 212 = .ok (.aload_n 0, 1) := by decide +kernel
theorem dX13_bear_213 : decode cX13_bear 213 = .ok (.getfield 36, 3) := by decide +kernel
theorem dX13_bear_216 : decode cX13_bear 216 = .ok (.aload_n 0, 1) := by decide +kernel
theorem dX13_bear_217 : decode cX13_bear 217 = .ok (.getfield 213, 3) := by decide +kernel
theorem dX13_bear_220 : decode cX13_bear 220 = .ok (.aload 4, 2) := by decide +kernel
theorem dX13_bear_222 : decode cX13_bear 222 = .ok (.iload 6, 2) := by decide +kernel
theorem dX13_bear_224 : decode cX13_bear 224 = .ok (.ifCond .eq 12, 3) := by decide +kernel
theorem dX13_bear_227 : decode cX13_bear 227 = .ok (.aload 4, 2) := by decide +kernel
theorem dX13_bear_229 : decode cX13_bear 229 = .ok (.iload_n 2, 1) := by decide +kernel
theorem dX13_bear_230 : decode cX13_bear 230 = .ok (.invokevirtual 321, 3) := by decide +kernel
theorem dX13_bear_233 : decode cX13_bear 233 = .ok (.goto 10, 3) := by decide +kernel
theorem dX13_bear_236 : decode cX13_bear 236 = .ok (.aload 4, 2) := by decide +kernel
theorem dX13_bear_238 : decode cX13_bear 238 = .ok (.getfield 142, 3) := by decide +kernel
theorem dX13_bear_241 : decode cX13_bear 241 = .ok (.iconst 1, 1) := by decide +kernel
theorem dX13_bear_242 : decode cX13_bear 242 = .ok (.isub, 1) := by decide +kernel
theorem dX13_bear_243 : decode cX13_bear 243 = .ok (.iconst 3, 1) := by decide +kernel
theorem dX13_bear_244 : decode cX13_bear 244 = .ok (.aload 4, 2) := by decide +kernel
theorem dX13_bear_246 : decode cX13_bear 246 = .ok (.getfield 110, 3) := by decide +kernel
theorem dX13_bear_249 : decode cX13_bear 249 = .ok (.iload 5, 2) := by decide +kernel
theorem dX13_bear_251 : decode cX13_bear 251 = .ok (.iaload, 1) := by decide +kernel
theorem dX13_bear_252 : decode cX13_bear 252 = .ok (.invokevirtual 154, 3) := by decide +kernel
theorem dX13_bear_255 : decode cX13_bear 255 = .ok (.iastore, 1) := by decide +kernel
theorem dX13_bear_256 : decode cX13_bear 256 = .ok (.aload_n 0, 1) := by decide +kernel
theorem dX13_bear_257 : decode cX13_bear 257 = .ok (.getfield 39, 3) := by decide +kernel
theorem dX13_bear_260 : decode cX13_bear 260 = .ok (.aload_n 0, 1) := by decide +kernel
theorem dX13_bear_261 : decode cX13_bear 261 = .ok (.getfield 213, 3) := by decide +kernel
theorem dX13_bear_264 : decode cX13_bear 264 = .ok (.lconst 0, 1) := by decide +kernel
theorem dX13_bear_265 : decode cX13_bear 265 = .ok (.lastore, 1) := by decide +kernel
theorem dX13_bear_266 : decode cX13_bear 266 = .ok (.aload_n 0, 1) := by decide +kernel
theorem dX13_bear_267 : decode cX13_bear 267 = .ok (.dup, 1) := by decide +kernel
theorem dX13_bear_268 : decode cX13_bear 268 = .ok (.getfield 213, 3) := by decide +kernel
theorem dX13_bear_271 : decode cX13_bear 271 = .ok (.iconst 1, 1) := by decide +kernel
theorem dX13_bear_272 : decode cX13_bear 272 = .ok (.iadd, 1) := by decide +kernel
theorem dX13_bear_273 : decode cX13_bear 273 = .ok (.putfield 213, 3) := by decide +kernel
theorem dX13_bear_276 : decode cX13_bear 276 = .ok (.iinc 5 1, 3) := by decide +kernel
theorem dX13_bear_279 : decode cX13_bear 279 = .ok (.goto (-197), 3) := by decide +kernel
theorem dX13_bear_282 : decode cX13_bear 282 = .ok (.aload_n 0, 1) := by decide +kernel
theorem dX13_bear_283 : decode cX13_bear 283 = .ok (.aload 4, 2) := by decide +kernel
theorem dX13_bear_285 : decode cX13_bear 285 = .ok (.iload_n 3, 1) := by decide +kernel
theorem dX13_bear_286 : decode cX13_bear 286 = .ok (.i2l, 1) := by decide +kernel
theorem dX13_bear_287 : decode cX13_bear 287 = .ok (.invokevirtual 354, 3) := by decide +kernel
theorem dX13_bear_290 : decode cX13_bear 290 = .ok (.lstore 5, 2) := by decide +kernel
theorem dX13_bear_292 : decode cX13_bear 292 = .ok (.iconst 0, 1) := by decide +kernel
theorem dX13_bear_293 : decode cX13_bear 293 = .ok (.istore 7, 2) := by decide +kernel
theorem dX13_bear_295 : decode cX13_bear 295 = .ok (.iload 7, 2) := by decide +kernel
theorem dX13_bear_297 : decode cX13_bear 297 = .ok (.bipush 24, 2) := by decide +kernel
theorem dX13_bear_299 : decode cX13_bear 299 = .ok (.if_icmp .ge 17, 3) := by decide +kernel
theorem dX13_bear_302 : decode cX13_bear 302 = .ok (.aload_n 0, 1) := by decide +kernel
theorem dX13_bear_303 : decode cX13_bear 303 = .ok (.getfield 49, 3) := by decide +kernel
theorem dX13_bear_306 : decode cX13_bear 306 = .ok (.iload 7, 2) := by decide +kernel
theorem dX13_bear_308 : decode cX13_bear 308 = .ok (.iconst 0, 1) := by decide +kernel
theorem dX13_bear_309 : decode cX13_bear 309 = .ok (.iastore, 1) := by decide +kernel
theorem dX13_bear_310 : decode cX13_bear 310 = .ok (.iinc 7 1, 3) := by decide +kernel
theorem dX13_bear_313 : decode cX13_bear 313 = .ok (.goto (-18), 3) := by decide +kernel
theorem dX13_bear_316 : decode cX13_bear 316 = .ok (.iconst 0, 1) := by decide +kernel
theorem dX13_bear_317 : decode cX13_bear 317 = .ok (.istore 7, 2) := by decide +kernel
theorem dX13_bear_319 : decode cX13_bear 319 = .ok (.iconst 0, 1) := by decide +kernel
theorem dX13_bear_320 : decode cX13_bear 320 = .ok (.istore 8, 2) := by decide +kernel
theorem dX13_bear_322 : decode cX13_bear 322 = .ok (.iload 8, 2) := by decide +kernel
theorem dX13_bear_324 : decode cX13_bear 324 = .ok (.aload_n 0, 1) := by decide +kernel
theorem dX13_bear_325 : decode cX13_bear 325 = .ok (.getfield 213, 3) := by decide +kernel
theorem dX13_bear_328 : decode cX13_bear 328 = .ok (.if_icmp .ge 51, 3) := by decide +kernel
theorem dX13_bear_331 : decode cX13_bear 331 = .ok (.aload_n 0, 1) := by decide +kernel
theorem dX13_bear_332 : decode cX13_bear 332 = .ok (.getfield 49, 3) := by decide +kernel
theorem dX13_bear_335 : decode cX13_bear 335 = .ok (.aload_n 0, 1) := by decide +kernel
theorem dX13_bear_336 : decode cX13_bear 336 = .ok (.getfield 33, 3) := by decide +kernel
theorem dX13_bear_339 : decode cX13_bear 339 = .ok (.iload 8, 2) := by decide +kernel
theorem dX13_bear_341 : decode cX13_bear 341 = .ok (.iaload, 1) := by decide +kernel
theorem dX13_bear_342 : decode cX13_bear 342 = .ok (.aload_n 0, 1) := by decide +kernel
theorem dX13_bear_343 : decode cX13_bear 343 = .ok (.getfield 39, 3) := by decide +kernel
theorem dX13_bear_346 : decode cX13_bear 346 = .ok (.iload 8, 2) := by decide +kernel
theorem dX13_bear_348 : decode cX13_bear 348 = .ok (.laload, 1) := by decide +kernel
theorem dX13_bear_349 : decode cX13_bear 349 = .ok (.l2i, 1) := by decide +kernel
theorem dX13_bear_350 : decode cX13_bear 350 = .ok (.iastore, 1) := by decide +kernel
theorem dX13_bear_351 : decode cX13_bear 351 = .ok (.iload 7, 2) := by decide +kernel
theorem dX13_bear_353 : decode cX13_bear 353 = .ok (.aload_n 0, 1) := by decide +kernel
theorem dX13_bear_354 : decode cX13_bear 354 = .ok (.getfield 39, 3) := by decide +kernel
theorem dX13_bear_357 : decode cX13_bear 357 = .ok (.iload 8, 2) := by decide +kernel
theorem dX13_bear_359 : decode cX13_bear 359 = .ok (.laload, 1) := by decide +kernel
theorem dX13_bear_360 : decode cX13_bear 360 = .ok (.lconst 0, 1) := by decide +kernel
theorem dX13_bear_361 : decode cX13_bear 361 = .ok (.lcmp, 1) := by decide +kernel
theorem dX13_bear_362 : decode cX13_bear 362 = .ok (.ifCond .le 7, 3) := by decide +kernel
theorem dX13_bear_365 : decode cX13_bear 365 = .ok (.iconst 1, 1) := by decide +kernel
theorem dX13_bear_366 : decode cX13_bear 366 = .ok (.goto 4, 3) := by decide +kernel
theorem dX13_bear_369 : decode cX13_bear 369 = .ok (.iconst 0, 1) := by decide +kernel
theorem dX13_bear_370 : decode cX13_bear 370 = .ok (.iadd, 1) := by decide +kernel
theorem dX13_bear_371 : decode cX13_bear 371 = .ok (.istore 7, 2) := by decide +kernel
theorem dX13_bear_373 : decode cX13_bear 373 = .ok (.iinc 8 1, 3) := by decide +kernel
theorem dX13_bear_376 : decode cX13_bear 376 = .ok (.goto (-54), 3) := by decide +kernel
theorem dX13_bear_379 : decode cX13_bear 379 = .ok (.aload_n 0, 1) := by decide +kernel
theorem dX13_bear_380 : decode cX13_bear 380 = .ok (.lload 5, 2) := by decide +kernel
theorem dX13_bear_382 : decode cX13_bear 382 = .ok (.l2i, 1) := by decide +kernel
theorem dX13_bear_383 : decode cX13_bear 383 = .ok (.putfield 382, 3) := by decide +kernel
theorem dX13_bear_386 : decode cX13_bear 386 = .ok (.aload_n 0, 1) := by decide +kernel
theorem dX13_bear_387 : decode cX13_bear 387 = .ok (.iload 7, 2) := by decide +kernel
theorem dX13_bear_389 : decode cX13_bear 389 = .ok (.invokevirtual 86, 3) := by decide +kernel
theorem dX13_bear_392 : decode cX13_bear 392 = .ok (.ireturn, 1) := by decide +kernel
theorem wd_811 : Cond.methodLink RX13 331 yX13_present ∈ lw_good := mem_t7 68 (by decide +kernel) rfl
theorem wd_812 : Cond.instanceMethod yX13_present ∈ lw_good := mem_t7 70 (by decide +kernel) rfl
theorem wd_813 : Cond.selects RX13 yX13_present yX13_present ∈ lw_good := mem_p 40 (by decide +kernel) rfl
theorem wd_814 : Cond.code yX13_present cX13_present 5 none ∈ lw_good := mem_t7 71 rfl rfl
theorem wd_815 : Cond.methodLink RX13 321 yX12_ruleOn ∈ lw_good := mem_t7 60 (by decide +kernel) rfl
theorem wd_816 : Cond.instanceMethod yX12_ruleOn ∈ lw_good := mem_t7 61 (by decide +kernel) rfl
theorem wd_817 : Cond.selects RX12 yX12_ruleOn yX12_ruleOn ∈ lw_good := mem_t7 62 (by decide +kernel) rfl
theorem wd_818 : Cond.code yX12_ruleOn cX12_ruleOn 3 (some .int) ∈ lw_good := mem_t7 63 rfl rfl
theorem wd_819 : Cond.methodLink RX13 379 yX13_since ∈ lw_good := mem_t7 136 (by decide +kernel) rfl
theorem wd_820 : Cond.static yX13_since ∈ lw_good := mem_t7 137 (by decide +kernel) rfl
theorem wd_821 : Cond.code yX13_since cX13_since 4 (some .int) ∈ lw_good := mem_t7 138 rfl rfl
/-- a House with rules has its first one from its first day on -/
def RLH (cy : Nat → ClassId) (a : Nat) (M : Hp) : Prop := ∀ (fs : List Value) (n first : Nat), M a = .inr (12, fs) → fs[11]? = some (.int (nI n)) → 1 ≤ n → fs[0]? = some (.int (nI first)) → ∃ (r : Nat) (f : Nat → Int32), fs[34]? = some (.ref r) ∧ M r = .inl (cy 14, 16, .inl f) ∧ f 0 ≤ nI first
def RLI (cy : Nat → ClassId) (K : Kp) (L : List Nat) (M : Hp) : Prop := ∀ a, isk K L a 12 0 → RLH cy a M
theorem RLD.of {cy : Nat → ClassId} {K : Kp} {L : List Nat} {M : Hp} {a n first : Nat} {d : Int32} {fs : List Value} (hW : WOM cy K L M) (h : RLI cy K L M) (ha : isk K L a 12 0) (hM : M a = .inr (12, fs)) (h11 : fs[11]? = some (.int (nI n))) (hn : 1 ≤ n) (hn2 : n ≤ 16) (h0 : fs[0]? = some (.int (nI first))) (hd : nI first ≤ d) : RLD cy K L a d M := by
  obtain ⟨r, f, h1, h2, h3⟩ := h a ha fs n first hM h11 hn h0
  obtain ⟨fs', hM', hlen, hfl⟩ := hW.open_12 ha
  have q9 := (Prod.mk.inj (Sum.inr.inj (hM'.symm.trans hM))).2
  rw [q9] at hfl
  obtain ⟨r', hr, hi⟩ : ∃ v : Nat, fs[34]? = some (.ref v : Value) ∧ isk K L v 43 16 := hfl 34 (by decide)
  have e : r' = r := by
    rw [h1] at hr
    exact (Value.ref.inj (Option.some.inj hr)).symm
  rw [e] at hi
  exact ⟨fs, n, r, f, hM, h11, hn, hn2, h1, hi, h2, Int32.le_trans h3 hd⟩
theorem RLI.fr {cy : Nat → ClassId} {K : Kp} {L : List Nat} {M M' : Hp} {ts : List Nat} (hW : WOM cy K L M) (h : RLI cy K L M) (hF : fr K L ts M M') (h1 : 12 ∉ ts) (h2 : 43 ∉ ts) : RLI cy K L M' := fun a ha fs n first hM h11 hn h0 => by
  rw [hF.at ha h1] at hM
  obtain ⟨r, f, h3, h4, h5⟩ := h a ha fs n first hM h11 hn h0
  obtain ⟨fs', hM', hlen, hfl⟩ := hW.open_12 ha
  have q9 := (Prod.mk.inj (Sum.inr.inj (hM'.symm.trans hM))).2
  rw [q9] at hfl
  obtain ⟨r', hr, hi⟩ : ∃ v : Nat, fs[34]? = some (.ref v : Value) ∧ isk K L v 43 16 := hfl 34 (by decide)
  have e : r' = r := by
    rw [h3] at hr
    exact (Value.ref.inj (Option.some.inj hr)).symm
  rw [e] at hi
  exact ⟨r, f, h3, (hF.at hi h2).trans h4, h5⟩
set_option maxHeartbeats 4000000 in
set_option maxRecDepth 100000 in
theorem r_ruleOnP (l : Launch) (D : va_G) (cy : Nat → ClassId) (K : Kp) (L : List Nat) (M : Hp) (sz : Nat) (oa : Nat) (k1 : Int32) (hW : WOM cy K L M) (ia : isk K L oa 12 0) (hRL : RLD cy K L oa k1 M) : Met l yX12_ruleOn (wsM yX12_ruleOn cX12_ruleOn 3 (some .int)) ({ frames := 0, cells := 0, slots := 0, locals := 0 }) (va_Pc [.ref oa, .int k1] (PG D cy [] L M sz)) (va_Qi (fun (r : Int32) (_ : Unit) => (∃ (j : Nat), r = (nI j) ∧ j < 16)) (fun _ t => PQ D [] L M (va_A ([] ++ va_pl L M) sz) t) (va_A ([] ++ va_pl L M) sz)) 0 0 (va_A ([] ++ va_pl L M) sz) := by
  refine Met.ofW (cc := cX12_ruleOn) (maxL := 3) (ret := (some .int)) (by decide) rfl ?_
  intro p e s m args below meth c s₁ B hml hv
  obtain ⟨rfl, hsz, hP, hK, hD0, hN⟩ := hv
  have hx := B.exec
  have hb := B.bytes
  have hr := B.returns
  have hts := atoms_spec (ws := (wsM yX12_ruleOn cX12_ruleOn 3 (some .int))) B.pre
  have hg : ∀ w ∈ lw_good, w.before _ s = true := fun w h => hts w (List.mem_cons_of_mem _ h)
  have hown : s.vm.findClass RX12 = some m.cls := findClass_of_methodNamed B.named
  have hlocks := B.notSynchronized
  subst hsz
  have hD := hD0.self (sz := s.heap.size)
  generalize hAe : va_A ([] ++ va_pl L M) s.heap.size = A at hD ⊢
  have hA : ∀ q : Nat, s.heap.size ≤ q → A q := fun q h => by rw [← hAe]; exact Or.inr h
  have hS : va_S A s.heap s.heap [] := va_S.rf
  have hl := lv_entry ([.ref oa, .int k1]) (n := 3) (Nat.le_of_ble_eq_true rfl)
  rw [lg_entry_eq]
  generalize (lg_sl ([.ref oa, .int k1]) ++ List.replicate (3 - (lg_sl ([.ref oa, .int k1])).length) Slot.unset).toArray = ls at hl ⊢
  refine W.nameQ (fun Q hQ => ?_)
  refine W.nameR (fun R hR => ?_)
  have hRf : 0 ≤ R.frames := by rw [hR]; exact Nat.le_of_ble_eq_true rfl
  have hRl : 0 ≤ R.locals := by rw [hR]; exact Nat.le_of_ble_eq_true rfl
  have hRc : 0 ≤ R.cells := by rw [hR]; exact Nat.le_of_ble_eq_true rfl
  have hRs : 0 ≤ R.slots := by rw [hR]; exact Nat.le_of_ble_eq_true rfl
  have hl : lv_has ls 3 [(0, .ref oa), (1, .int k1)] := hl
  obtain ⟨fs, n11, r34, f34, hMa, hv11, hn1, hn16, hv34, i34, hM34, hf0⟩ := hRL
  obtain ⟨fs', hM', hlen, hfl⟩ := hW.open_12 ia
  have q9 := (Prod.mk.inj (Sum.inr.inj (hM'.symm.trans hMa))).2
  rw [q9] at hlen hfl
  refine lv_aload_n hx hb dX12_ruleOn_0 rfl (lv_at hl 0 rfl) ?_
  refine pg_get (D := D) (ci := 12) (v := .int (nI n11)) (C := RX12) (T := TX12) (N := 51) hx hb hg inG12 hown hK hP ia.1 hMa rfl 11 (by decide) (hg _ wd_707) (fun _ h9 => h9) hv11 dX12_ruleOn_1 ?_
  refine lv_iconst (v := 1) hx hb dX12_ruleOn_4 (by decide) ?_
  refine lv_isub hx hb dX12_ruleOn_5 ?_
  refine lv_topi (fun f_1 ef_1 => ?_)
  obtain rfl : f_1 = (nI (n11 - 1)) := ef_1.trans (nI_prd (by omega))
  refine lv_istore_n (lv' := [(2, .int (nI (n11 - 1))), (0, .ref oa), (1, .int k1)]) hx hb dX12_ruleOn_6 rfl hl (by decide) rfl (fun ls hl => ?_)
  have key_2 : ∀ (fu_4 : Nat) (v2w5 : Nat) (H_7 : Heap) (locs : List Loc) (ls : Array Slot), v2w5 < fu_4 → v2w5 < n11 → WOM cy K L M → va_P D vwCl ([] ++ va_pl L M) H_7 → va_D A ([] ++ va_pl L M) → va_S A s.heap H_7 locs → lv_has ls 3 [(2, .int (nI v2w5)), (0, .ref oa), (1, .int k1)] → W p l e R s m ([.ref oa, .int k1] : List Value).toArray below meth c H_7 locs 0 0 Q (F0 m 7 ls []) := by
    intro fu_4
    induction fu_4 with
    | zero => intro v2w5 H_7 locs ls h; exact absurd h (Nat.not_lt_zero _)
    | succ fu_4 ih_3 =>
      intro v2w5 H_7 locs ls hfu hx_6 hW hP hD hS hl
      refine lv_iload_n hx hb dX12_ruleOn_7 rfl (lv_at hl 0 rfl) ?_
      refine lv_if_lt (tgt := 27) hx hb dX12_ruleOn_8 (by decide) (fun c_8 => absurd c_8 (nI_pos (by omega))) (fun _ => ?_)
      refine lv_aload_n hx hb dX12_ruleOn_11 rfl (lv_at hl 1 rfl) ?_
      refine pg_get (D := D) (ci := 12) (v := .ref r34) (C := RX12) (T := TX12) (N := 51) hx hb hg inG12 hown hK hP ia.1 hMa rfl 34 (by decide) (hg _ wd_708) (fun _ h9 => h9) hv34 dX12_ruleOn_12 ?_
      refine lv_iload_n hx hb dX12_ruleOn_15 rfl (lv_at hl 0 rfl) ?_
      refine pg_iald hx hb hK hP i34.1 0 hM34 rfl (inbN v2w5 16 (by omega) (by omega)) dX12_ruleOn_16 ?_
      refine lv_topi (fun f_9 ef_9 => ?_)
      refine lv_iload_n hx hb dX12_ruleOn_17 rfl (lv_at hl 2 rfl) ?_
      refine lv_icmp_le (tgt := 27) hx hb dX12_ruleOn_18 (by decide) (fun c_10 => ?_) (fun c_10 => ?_)
      · have hz := rfl (a := 0)
        refine lv_iload_n hx hb dX12_ruleOn_27 rfl (lv_at hl 0 rfl) ?_
        rw [hQ]
        exact W.iret (v := (nI v2w5)) hx hb hr (fun t ht hW9 => ⟨⟨(nI v2w5), (), rfl, ⟨v2w5, rfl, (by omega)⟩, ⟨by rw [ht]; exact hP, hD⟩⟩, hS.F ht⟩) hS.2.2 dX12_ruleOn_28
      · have hz := rfl (a := 0)
        rcases Nat.eq_zero_or_pos v2w5 with hz0 | hz1
        · exact absurd (show f_9 ≤ k1 by rw [ef_9, hz0]; exact hf0) c_10
        · refine lv_iinc (v := (nI (v2w5 - 1))) (lv' := [(2, .int (nI (v2w5 - 1))), (0, .ref oa), (1, .int k1)]) hx hb dX12_ruleOn_21 hl (k := 0) rfl (sb_m1 hz1) (by decide) rfl (fun ls hl => ?_)
          refine lv_goto (tgt := 7) hx hb dX12_ruleOn_24 (by decide) ?_
          exact ih_3 (v2w5 - 1) H_7 _ _ (by omega) (by omega) hW hP hD hS (lv_sub hl [0, 1, 2] rfl)
  exact key_2 ((n11 - 1) + 1) (n11 - 1) s.heap _ _ (by omega) (by omega) hW hP hD hS (lv_sub hl [0, 1, 2] rfl)
set_option maxHeartbeats 4000000 in
set_option maxRecDepth 100000 in
theorem r_X13_hidden (l : Launch) (D : va_G) (cy : Nat → ClassId) (K : Kp) (L : List Nat) (M : Hp) (sz : Nat) (za : Nat) (z0 : Int32) (z1 : Nat) (z2 : Nat) (z3 : Nat) (z4 : Int32) (z5 : Int32) (z6 : Nat) (z7 : Nat) (z8 : Nat) (z9 : Nat) (z10 : Nat) (z11 : Nat) (z12 : Nat) (z13 : Nat) (z14 : Nat) (z15 : Nat) (z16 : Nat) (z17 : Nat) (z18 : Int32) (z19 : Nat) (k1 : Int32) (k2 : Int32) (k3 : Int32) (hW : WOM cy K L M) (i1 : isk K L z1 23 8) (b2 : z2 ≤ 8) (b3 : z3 ≤ 40) (i6 : isk K L z6 47 40) (i7 : isk K L z7 48 40) (i8 : isk K L z8 49 8) (i9 : isk K L z9 50 8) (b10 : z10 ≤ 8) (i11 : isk K L z11 32 24) (i12 : isk K L z12 14 24) (i13 : isk K L z13 15 24) (i14 : isk K L z14 15 24) (i15 : isk K L z15 15 24) (b16 : z16 ≤ 24) (i17 : isk K L z17 14 24) (i19 : isk K L z19 15 25) (hRL : RLI cy K L M) : Met l yX13_hidden (wsM yX13_hidden cX13_hidden 6 (some .int)) ({ frames := 3, cells := 0, slots := 0, locals := 78 }) (va_Pc [.ref za, .int k1, .int k2, .int k3] (PG D cy [(za, .inr (13, [.int z0, .ref z1, .int (nI z2), .int (nI z3), .int z4, .int z5, .ref z6, .ref z7, .ref z8, .ref z9, .int (nI z10), .ref z11, .ref z12, .ref z13, .ref z14, .ref z15, .int (nI z16), .ref z17, .int z18, .ref z19]))] L M sz)) (va_Qi (fun (r : Int32) (M9 : Hp) => WOM cy K L M9 ∧ fr K L [14, 15, 32] M M9 ∧ (True)) (fun M9 t => ∃ (w4 : Int32) (w5 : Int32) (w16 : Nat), w16 ≤ 24 ∧ PQ D [(za, .inr (13, [.int 0, .ref z1, .int (nI z2), .int (nI z3), .int w4, .int w5, .ref z6, .ref z7, .ref z8, .ref z9, .int (nI z10), .ref z11, .ref z12, .ref z13, .ref z14, .ref z15, .int (nI w16), .ref z17, .int z18, .ref z19]))] L M9 (va_A ([(za, .inr (13, [.int z0, .ref z1, .int (nI z2), .int (nI z3), .int z4, .int z5, .ref z6, .ref z7, .ref z8, .ref z9, .int (nI z10), .ref z11, .ref z12, .ref z13, .ref z14, .ref z15, .int (nI z16), .ref z17, .int z18, .ref z19]))] ++ va_pl L M) sz) t) (va_A ([(za, .inr (13, [.int z0, .ref z1, .int (nI z2), .int (nI z3), .int z4, .int z5, .ref z6, .ref z7, .ref z8, .ref z9, .int (nI z10), .ref z11, .ref z12, .ref z13, .ref z14, .ref z15, .int (nI z16), .ref z17, .int z18, .ref z19]))] ++ va_pl L M) sz)) 0 0 (va_A ([(za, .inr (13, [.int z0, .ref z1, .int (nI z2), .int (nI z3), .int z4, .int z5, .ref z6, .ref z7, .ref z8, .ref z9, .int (nI z10), .ref z11, .ref z12, .ref z13, .ref z14, .ref z15, .int (nI z16), .ref z17, .int z18, .ref z19]))] ++ va_pl L M) sz) := by
  refine Met.ofW (cc := cX13_hidden) (maxL := 6) (ret := (some .int)) (by decide) rfl ?_
  intro p e s m args below meth c s₁ B hml hv
  obtain ⟨rfl, hsz, hP, hK, hD0, hN⟩ := hv
  have hx := B.exec
  have hb := B.bytes
  have hr := B.returns
  have hts := atoms_spec (ws := (wsM yX13_hidden cX13_hidden 6 (some .int))) B.pre
  have hg : ∀ w ∈ lw_good, w.before _ s = true := fun w h => hts w (List.mem_cons_of_mem _ h)
  have hown : s.vm.findClass RX13 = some m.cls := findClass_of_methodNamed B.named
  have hlocks := B.notSynchronized
  subst hsz
  have hD := hD0.self (sz := s.heap.size)
  generalize hAe : va_A ([(za, .inr (13, [.int z0, .ref z1, .int (nI z2), .int (nI z3), .int z4, .int z5, .ref z6, .ref z7, .ref z8, .ref z9, .int (nI z10), .ref z11, .ref z12, .ref z13, .ref z14, .ref z15, .int (nI z16), .ref z17, .int z18, .ref z19]))] ++ va_pl L M) s.heap.size = A at hD ⊢
  have hA : ∀ q : Nat, s.heap.size ≤ q → A q := fun q h => by rw [← hAe]; exact Or.inr h
  have hS : va_S A s.heap s.heap [] := va_S.rf
  have hl := lv_entry ([.ref za, .int k1, .int k2, .int k3]) (n := 6) (Nat.le_of_ble_eq_true rfl)
  rw [lg_entry_eq]
  generalize (lg_sl ([.ref za, .int k1, .int k2, .int k3]) ++ List.replicate (6 - (lg_sl ([.ref za, .int k1, .int k2, .int k3])).length) Slot.unset).toArray = ls at hl ⊢
  refine W.nameQ (fun Q hQ => ?_)
  refine W.nameR (fun R hR => ?_)
  have hRf : 3 ≤ R.frames := by rw [hR]; exact Nat.le_of_ble_eq_true rfl
  have hRl : 78 ≤ R.locals := by rw [hR]; exact Nat.le_of_ble_eq_true rfl
  have hRc : 0 ≤ R.cells := by rw [hR]; exact Nat.le_of_ble_eq_true rfl
  have hRs : 0 ≤ R.slots := by rw [hR]; exact Nat.le_of_ble_eq_true rfl
  have hF : fr K L [14, 15, 32] M M := fr.rf
  have hl : lv_has ls 6 [(0, .ref za), (1, .int k1), (2, .int k2), (3, .int k3)] := hl
  have hW0 := hW
  refine lv_aload_n hx hb dX13_hidden_0 rfl (lv_at hl 0 rfl) ?_
  refine lv_iconst (v := 0) hx hb dX13_hidden_1 (by decide) ?_
  refine va_put (D := D) (ci := 13) (v := .int 0) (ty := .int) (C := RX13) (T := TX13) (N := 20) hx hb hg inG13 tyX13 tyX13_ok nmX13 hown hK hP hD hS 0 rfl rfl 0 (by decide) (hg _ wd_720) (fun _ h9 => h9) rfl (by decide +kernel) rfl rfl (Nat.le_of_ble_eq_true rfl) dX13_hidden_2 (fun H_1 locs hP hD hS => ?_)
  have hP : va_P D vwCl ([(za, .inr (13, [.int 0, .ref z1, .int (nI z2), .int (nI z3), .int z4, .int z5, .ref z6, .ref z7, .ref z8, .ref z9, .int (nI z10), .ref z11, .ref z12, .ref z13, .ref z14, .ref z15, .int (nI z16), .ref z17, .int z18, .ref z19]))] ++ va_pl L M) H_1 := hP
  have hD : va_D A ([(za, .inr (13, [.int 0, .ref z1, .int (nI z2), .int (nI z3), .int z4, .int z5, .ref z6, .ref z7, .ref z8, .ref z9, .int (nI z10), .ref z11, .ref z12, .ref z13, .ref z14, .ref z15, .int (nI z16), .ref z17, .int z18, .ref z19]))] ++ va_pl L M) := hD
  refine lv_aload_n hx hb dX13_hidden_5 rfl (lv_at hl 0 rfl) ?_
  refine lv_iload_n hx hb dX13_hidden_6 rfl (lv_at hl 1 rfl) ?_
  have hPc : va_P D vwCl ([(za, .inr (13, [.int 0, .ref z1, .int (nI z2), .int (nI z3), .int z4, .int z5, .ref z6, .ref z7, .ref z8, .ref z9, .int (nI z10), .ref z11, .ref z12, .ref z13, .ref z14, .ref z15, .int (nI z16), .ref z17, .int z18, .ref z19]))] ++ va_pl L M) H_1 := hP
  have hDc : va_D A ([(za, .inr (13, [.int 0, .ref z1, .int (nI z2), .int (nI z3), .int z4, .int z5, .ref z6, .ref z7, .ref z8, .ref z9, .int (nI z10), .ref z11, .ref z12, .ref z13, .ref z14, .ref z15, .int (nI z16), .ref z17, .int z18, .ref z19]))] ++ va_pl L M) := hD
  have hFc : ∀ q, va_A ([(za, .inr (13, [.int 0, .ref z1, .int (nI z2), .int (nI z3), .int z4, .int z5, .ref z6, .ref z7, .ref z8, .ref z9, .int (nI z10), .ref z11, .ref z12, .ref z13, .ref z14, .ref z15, .int (nI z16), .ref z17, .int z18, .ref z19]))] ++ va_pl L M) H_1.size q → A q := pg_free hDc hS hA
  refine va_calli (va_runV (As := [.int k1]) (rest := []) ⟨hx, hb, hml, hown, hg⟩ (r_X13_isHouse l D cy K L M H_1.size za 0 z1 z2 z3 z4 z5 z6 z7 z8 z9 z10 z11 z12 z13 z14 z15 z16 z17 z18 z19 k1  hW i1 b2 b3 i6 i7 i8 i9 b10 i11 i12 i13 i14 i15 b16 i17 i19) (cwV 1 hg (gV wd_714 wd_715 wd_716 wd_717 wd_718) rfl rfl rfl (by decide +kernel) ⟨(Nat.le_trans (Nat.le_of_ble_eq_true rfl) hRf), (Nat.le_trans (Nat.le_of_ble_eq_true rfl) hRl)⟩) ⟨PG.blind, va_recv hK hP (ci := 13) (q0 := 0) rfl rfl, fun U hU hW => ⟨rfl, PG.at hPc hK hDc hN hU hW⟩⟩ rfl rfl hl.1 rfl (lv_room (Nat.le_of_ble_eq_true rfl)) dX13_hidden_7 ⟨(Nat.le_trans (Nat.le_of_ble_eq_true rfl) hRc), (Nat.le_trans (Nat.le_of_ble_eq_true rfl) hRs)⟩) hS (fun q _ h => hFc q h) hFc (fun r_3 M_4 t H_2 locs ht hvm hw hB hz1 hk1 hS => ?_)
  have hp_5 := hw
  obtain ⟨hP1, hD1⟩ := hB
  rw [ht] at hP1
  have hP : va_P D vwCl ([(za, .inr (13, [.int 0, .ref z1, .int (nI z2), .int (nI z3), .int z4, .int z5, .ref z6, .ref z7, .ref z8, .ref z9, .int (nI z10), .ref z11, .ref z12, .ref z13, .ref z14, .ref z15, .int (nI z16), .ref z17, .int z18, .ref z19]))] ++ va_pl L M) H_2 := hP1
  have hD : va_D A ([(za, .inr (13, [.int 0, .ref z1, .int (nI z2), .int (nI z3), .int z4, .int z5, .ref z6, .ref z7, .ref z8, .ref z9, .int (nI z10), .ref z11, .ref z12, .ref z13, .ref z14, .ref z15, .int (nI z16), .ref z17, .int z18, .ref z19]))] ++ va_pl L M) := hD1.mono hFc
  rcases hp_5 with ⟨rfl, c_6, c_7⟩ | rfl
  · have hz := rfl (a := 0)
    refine lv_if_eq (tgt := 25) hx hb dX13_hidden_10 (by decide) (fun c_8 => absurd c_8 (by decide)) (fun _ => ?_)
    refine lv_aload_n hx hb dX13_hidden_13 rfl (lv_at hl 0 rfl) ?_
    refine va_get (D := D) (ci := 13) (v := .ref z1) (C := RX13) (T := TX13) (N := 20) hx hb hg inG13 hown hK hP 0 rfl rfl 1 (by decide) (hg _ wd_739) (fun _ h9 => h9) rfl dX13_hidden_14 ?_
    refine lv_iload_n hx hb dX13_hidden_17 rfl (lv_at hl 1 rfl) ?_
    obtain ⟨f9, hM9, hf9⟩ := hW.open_23 i1
    have hi_10 : vp_in k1 8 := (inbW (a := z2) (by omega) (inb k1 z2 (by omega) c_6 c_7))
    refine pg_aldq hx hb hK hP i1.1 9 hM9 rfl hi_10 dX13_hidden_18 ?_
    obtain ⟨b11, eb_12, hb_13⟩ := hf9 _ (vp_lt hi_10)
    rw [eb_12]
    obtain ⟨fs14, hM14, hn14, hl14⟩ := hW.open_12 hb_13
    obtain ⟨v15, hv15, hc15⟩ : ∃ v : Nat, fs14[11]? = some (.int (nI v) : Value) ∧ v ≤ 16 := hl14 11 (by decide)
    refine pg_getN (D := D) (ci := 12) (v := .int (nI v15)) (C := RX12) (T := TX12) (N := 51) hx hb hg inG12 hown hK hP hb_13.1 hM14 rfl 11 (by decide) (hN.use (Cond.fieldLinkNest RX13 142 RX12 "rules" "I" RX13) 20 rfl rfl) (fun _ h9 => h9) hv15 dX13_hidden_19 ?_
    refine lv_if_ne (tgt := 31) hx hb dX13_hidden_22 (by decide) (fun c_16 => ?_) (fun c_16 => ?_)
    · have hz := rfl (a := 0)
      have n_17 : ¬ (v15 = 0) := fun q => c_16 ((iEQ (a := v15) (b := 0) (by omega) (by omega)).mpr q)
      refine lv_iload_n hx hb dX13_hidden_31 rfl (lv_at hl 3 rfl) ?_
      have hPc : va_P D vwCl ([] ++ va_pl L M) H_2 := hP.part (cx := []) [] rfl
      have hDc : va_D A ([] ++ va_pl L M) := hD.part (cx := []) [] (by decide) rfl
      have hFc : ∀ q, va_A ([] ++ va_pl L M) H_2.size q → A q := pg_free hDc hS hA
      refine va_calli (va_runS (As := [.int k3]) (rest := []) ⟨hx, hb, hml, hown, hg⟩ (r_X13_isSum l D cy K L M H_2.size k3  hW ) (va_cwS 1 hg (gS wd_774 wd_775 wd_717 wd_776) rfl rfl rfl (by decide +kernel) ⟨(Nat.le_trans (Nat.le_of_ble_eq_true rfl) hRf), (Nat.le_trans (Nat.le_of_ble_eq_true rfl) hRl)⟩) ⟨PG.blind, fun U hU hW => ⟨rfl, PG.at hPc hK hDc hN hU hW⟩⟩ rfl rfl hl.1 rfl (lv_room (Nat.le_of_ble_eq_true rfl)) dX13_hidden_32 ⟨(Nat.le_trans (Nat.le_of_ble_eq_true rfl) hRc), (Nat.le_trans (Nat.le_of_ble_eq_true rfl) hRs)⟩) hS (fun q _ h => hFc q h) hFc (fun r_19 M_20 t H_18 locs ht hvm hw hB hz1 hk1 hS => ?_)
      have hp_21 := hw
      obtain ⟨hP1, hD1⟩ := hB
      rw [ht] at hP1
      obtain ⟨hP, hD⟩ := va_joinP (X := [(za, .inr (13, [.int 0, .ref z1, .int (nI z2), .int (nI z3), .int z4, .int z5, .ref z6, .ref z7, .ref z8, .ref z9, .int (nI z10), .ref z11, .ref z12, .ref z13, .ref z14, .ref z15, .int (nI z16), .ref z17, .int z18, .ref z19]))]) (cx := []) (wr := [(za, .inr (13, [.int 0, .ref z1, .int (nI z2), .int (nI z3), .int z4, .int z5, .ref z6, .ref z7, .ref z8, .ref z9, .int (nI z10), .ref z11, .ref z12, .ref z13, .ref z14, .ref z15, .int (nI z16), .ref z17, .int z18, .ref z19]))]) (rx := []) (pl := va_pl L M) (pl1 := va_pl L M) hP hD [] [0] rfl rfl (by decide) (by decide) hk1 hFc hP1 hD1
      have hP : va_P D vwCl ([(za, .inr (13, [.int 0, .ref z1, .int (nI z2), .int (nI z3), .int z4, .int z5, .ref z6, .ref z7, .ref z8, .ref z9, .int (nI z10), .ref z11, .ref z12, .ref z13, .ref z14, .ref z15, .int (nI z16), .ref z17, .int z18, .ref z19]))] ++ va_pl L M) H_18 := hP
      have hD : va_D A ([(za, .inr (13, [.int 0, .ref z1, .int (nI z2), .int (nI z3), .int z4, .int z5, .ref z6, .ref z7, .ref z8, .ref z9, .int (nI z10), .ref z11, .ref z12, .ref z13, .ref z14, .ref z15, .int (nI z16), .ref z17, .int z18, .ref z19]))] ++ va_pl L M) := hD
      rcases hp_21 with rfl | rfl
      · have hz := rfl (a := 0)
        refine lv_if_ne (tgt := 44) hx hb dX13_hidden_35 (by decide) (fun _ => ?_) (fun c_22 => absurd c_22 (by decide))
        refine lv_aload_n hx hb dX13_hidden_44 rfl (lv_at hl 0 rfl) ?_
        refine va_get (D := D) (ci := 13) (v := .ref z1) (C := RX13) (T := TX13) (N := 20) hx hb hg inG13 hown hK hP 0 rfl rfl 1 (by decide) (hg _ wd_739) (fun _ h9 => h9) rfl dX13_hidden_45 ?_
        refine lv_iload_n hx hb dX13_hidden_48 rfl (lv_at hl 1 rfl) ?_
        have hi_23 : vp_in k1 8 := (inbW (a := z2) (by omega) (inb k1 z2 (by omega) c_6 c_7))
        refine pg_aldq hx hb hK hP i1.1 9 hM9 rfl hi_23 dX13_hidden_49 ?_
        rw [show f9 (k1 : Int32).toNatClampNeg = some b11 from eb_12]
        refine lv_astore (lv' := [(4, .ref b11), (0, .ref za), (1, .int k1), (2, .int k2), (3, .int k3)]) hx hb dX13_hidden_50 hl (by decide) rfl (fun ls hl => ?_)
        refine lv_iload_n hx hb dX13_hidden_52 rfl (lv_at hl 3 rfl) ?_
        refine lv_aload hx hb dX13_hidden_53 (lv_at hl 0 rfl) ?_
        obtain ⟨v24, hv24, hc24⟩ : ∃ v : Nat, fs14[0]? = some (.int (nI v) : Value) ∧ v ≤ 999 := hl14 0 (by decide)
        refine pg_getN (D := D) (ci := 12) (v := .int (nI v24)) (C := RX12) (T := TX12) (N := 51) hx hb hg inG12 hown hK hP hb_13.1 hM14 rfl 0 (by decide) (hN.use (Cond.fieldLinkNest RX13 77 RX12 "first" "I" RX13) 9 rfl rfl) (fun _ h9 => h9) hv24 dX13_hidden_55 ?_
        refine lv_icmp_lt (tgt := 68) hx hb dX13_hidden_58 (by decide) (fun c_25 => ?_) (fun c_25 => ?_)
        · have hz := rfl (a := 0)
          have n_26 : ¬ 999 ≤ k2 := ltB (b := 999) (by decide) hc24 c_25
          refine lv_aload_n hx hb dX13_hidden_68 rfl (lv_at hl 1 rfl) ?_
          refine lv_iconst (v := 3) hx hb dX13_hidden_69 (by decide) ?_
          have hPc := hP.sub (ws' := [(za, .inr (13, [.int 0, .ref z1, .int (nI z2), .int (nI z3), .int z4, .int z5, .ref z6, .ref z7, .ref z8, .ref z9, .int (nI z10), .ref z11, .ref z12, .ref z13, .ref z14, .ref z15, .int (nI z16), .ref z17, .int z18, .ref z19]))]) [0] rfl
          have hDc := hD.sub (ws' := [(za, .inr (13, [.int 0, .ref z1, .int (nI z2), .int (nI z3), .int z4, .int z5, .ref z6, .ref z7, .ref z8, .ref z9, .int (nI z10), .ref z11, .ref z12, .ref z13, .ref z14, .ref z15, .int (nI z16), .ref z17, .int z18, .ref z19]))]) [0] (by decide) rfl
          have hKc := hK.sub (tys' := []) [] rfl
          have hFc := va_free (wc := [(za, .inr (13, [.int 0, .ref z1, .int (nI z2), .int (nI z3), .int z4, .int z5, .ref z6, .ref z7, .ref z8, .ref z9, .int (nI z10), .ref z11, .ref z12, .ref z13, .ref z14, .ref z15, .int (nI z16), .ref z17, .int z18, .ref z19]))]) hD hS hA [0] rfl
          refine va_calli (va_runV (As := [.int 3]) (rest := []) ⟨hx, hb, hml, hown, hg⟩ (m_refused l D H_18.size za 0 z1 (nI z2) (nI z3) z4 z5 z6 z7 z8 z9 (nI z10) z11 z12 z13 z14 z15 (nI z16) z17 z18 z19 3) (cwV 1 hg (gV wd_725 wd_726 wd_727 wd_717 wd_728) rfl rfl rfl (by decide +kernel) ⟨(Nat.le_trans (Nat.le_of_ble_eq_true rfl) hRf), (Nat.le_trans (Nat.le_of_ble_eq_true rfl) hRl)⟩) ⟨Pr.blind, va_recv hK hP (ci := 13) (q0 := 0) rfl rfl, fun U hU hW => ⟨rfl, Pr.at hPc hKc hDc hN hU hW⟩⟩ rfl rfl hl.1 rfl (lv_room (Nat.le_of_ble_eq_true rfl)) dX13_hidden_70 ⟨(Nat.le_trans (Nat.le_of_ble_eq_true rfl) hRc), (Nat.le_trans (Nat.le_of_ble_eq_true rfl) hRs)⟩) hS (fun q _ h => hFc q h) hFc (fun r_28 M_29 t H_27 locs ht hvm hw hB hz1 hk1 hS => ?_)
          have hp_30 := hw
          obtain ⟨hP1, hK1, hD1⟩ := hB
          rw [ht] at hP1
          obtain ⟨hP, hD⟩ := va_joinQ (X := [(za, .inr (13, [.int 0, .ref z1, .int (nI z2), .int (nI z3), .int z4, .int z5, .ref z6, .ref z7, .ref z8, .ref z9, .int (nI z10), .ref z11, .ref z12, .ref z13, .ref z14, .ref z15, .int (nI z16), .ref z17, .int z18, .ref z19]))]) (cx := [(za, .inr (13, [.int 0, .ref z1, .int (nI z2), .int (nI z3), .int z4, .int z5, .ref z6, .ref z7, .ref z8, .ref z9, .int (nI z10), .ref z11, .ref z12, .ref z13, .ref z14, .ref z15, .int (nI z16), .ref z17, .int z18, .ref z19]))]) (wr := []) (w1 := [(za, .inr (13, [.int 0, .ref z1, .int (nI z2), .int (nI z3), .int 3, .int (-1), .ref z6, .ref z7, .ref z8, .ref z9, .int (nI z10), .ref z11, .ref z12, .ref z13, .ref z14, .ref z15, .int (nI z16), .ref z17, .int z18, .ref z19]))]) (pl := va_pl L M) hP hD [0] [] rfl rfl (by decide) (by decide) hk1 hFc hP1 hD1
          have hP : va_P D vwCl ([(za, .inr (13, [.int 0, .ref z1, .int (nI z2), .int (nI z3), .int 3, .int (-1), .ref z6, .ref z7, .ref z8, .ref z9, .int (nI z10), .ref z11, .ref z12, .ref z13, .ref z14, .ref z15, .int (nI z16), .ref z17, .int z18, .ref z19]))] ++ va_pl L M) H_27 := hP
          have hD : va_D A ([(za, .inr (13, [.int 0, .ref z1, .int (nI z2), .int (nI z3), .int 3, .int (-1), .ref z6, .ref z7, .ref z8, .ref z9, .int (nI z10), .ref z11, .ref z12, .ref z13, .ref z14, .ref z15, .int (nI z16), .ref z17, .int z18, .ref z19]))] ++ va_pl L M) := hD
          have hq := Eq.symm hp_30
          subst hq
          rw [hQ]
          exact W.iret (v := (-1)) hx hb hr (fun t ht hW9 => ⟨⟨(-1), M, rfl, ⟨hW, hF, trivial⟩, ⟨3, (-1), z16, (by omega), by rw [ht]; exact hP, hD⟩⟩, hS.F ht⟩) hS.2.2 dX13_hidden_73
        · have hz := rfl (a := 0)
          refine lv_iload_n hx hb dX13_hidden_61 rfl (lv_at hl 3 rfl) ?_
          refine lv_sipush (v := 1000) hx hb dX13_hidden_62 (by decide) ?_
          refine lv_icmp_lt (tgt := 74) hx hb dX13_hidden_65 (by decide) (fun c_31 => ?_) (fun c_31 => ?_)
          · have hz := rfl (a := 0)
            refine lv_aload_n hx hb dX13_hidden_74 rfl (lv_at hl 1 rfl) ?_
            refine lv_aload hx hb dX13_hidden_75 (lv_at hl 0 rfl) ?_
            refine lv_iload_n hx hb dX13_hidden_77 rfl (lv_at hl 3 rfl) ?_
            have hPc : va_P D vwCl ([(za, .inr (13, [.int 0, .ref z1, .int (nI z2), .int (nI z3), .int z4, .int z5, .ref z6, .ref z7, .ref z8, .ref z9, .int (nI z10), .ref z11, .ref z12, .ref z13, .ref z14, .ref z15, .int (nI z16), .ref z17, .int z18, .ref z19]))] ++ va_pl L M) H_18 := hP
            have hDc : va_D A ([(za, .inr (13, [.int 0, .ref z1, .int (nI z2), .int (nI z3), .int z4, .int z5, .ref z6, .ref z7, .ref z8, .ref z9, .int (nI z10), .ref z11, .ref z12, .ref z13, .ref z14, .ref z15, .int (nI z16), .ref z17, .int z18, .ref z19]))] ++ va_pl L M) := hD
            have hFc : ∀ q, va_A ([(za, .inr (13, [.int 0, .ref z1, .int (nI z2), .int (nI z3), .int z4, .int z5, .ref z6, .ref z7, .ref z8, .ref z9, .int (nI z10), .ref z11, .ref z12, .ref z13, .ref z14, .ref z15, .int (nI z16), .ref z17, .int z18, .ref z19]))] ++ va_pl L M) H_18.size q → A q := pg_free hDc hS hA
            refine va_callv (va_runV (As := [.ref b11, .int k2]) (rest := []) ⟨hx, hb, hml, hown, hg⟩ (r_X13_present l D cy K L M H_18.size za 0 z1 z2 z3 z4 z5 z6 z7 z8 z9 z10 z11 z12 z13 z14 z15 z16 z17 z18 z19 b11 k2  hW i1 b2 b3 i6 i7 i8 i9 b10 i11 i12 i13 i14 i15 b16 i17 i19 hb_13) (cwV 2 hg (gV wd_811 wd_812 wd_813 wd_717 wd_814) rfl rfl rfl (by decide +kernel) ⟨(Nat.le_trans (Nat.le_of_ble_eq_true rfl) hRf), (Nat.le_trans (Nat.le_of_ble_eq_true rfl) hRl)⟩) ⟨PG.blind, va_recv hK hP (ci := 13) (q0 := 0) rfl rfl, fun U hU hW => ⟨rfl, PG.at hPc hK hDc hN hU hW⟩⟩ rfl rfl hl.1 rfl (lv_room (Nat.le_of_ble_eq_true rfl)) dX13_hidden_78 ⟨(Nat.le_trans (Nat.le_of_ble_eq_true rfl) hRc), (Nat.le_trans (Nat.le_of_ble_eq_true rfl) hRs)⟩) hS (fun q _ h => hFc q h) hFc (fun M_34 t H_32 locs ht hvm hw hB hz1 hk1 hS => ?_)
            obtain ⟨hW, hF2, hp_35⟩ := hw
            obtain ⟨w16_36, hg_37, hP1, hD1⟩ := hB
            rw [ht] at hP1
            have hP : va_P D vwCl ([(za, .inr (13, [.int 0, .ref z1, .int (nI z2), .int (nI z3), .int z4, .int z5, .ref z6, .ref z7, .ref z8, .ref z9, .int (nI z10), .ref z11, .ref z12, .ref z13, .ref z14, .ref z15, .int (nI w16_36), .ref z17, .int z18, .ref z19]))] ++ va_pl L M_34) H_32 := hP1
            have hD : va_D A ([(za, .inr (13, [.int 0, .ref z1, .int (nI z2), .int (nI z3), .int z4, .int z5, .ref z6, .ref z7, .ref z8, .ref z9, .int (nI z10), .ref z11, .ref z12, .ref z13, .ref z14, .ref z15, .int (nI w16_36), .ref z17, .int z18, .ref z19]))] ++ va_pl L M_34) := hD1.mono hFc
            have hM_38 : M_34 z1 = .inl (cy 23, 8, .inr (.inr (.inr (.inr (f9))))) := (hF2.at i1 (by decide)).trans hM9
            have hM_39 : M_34 b11 = .inr (12, fs14) := (hF2.at hb_13 (by decide)).trans hM14
            have hF : fr K L [14, 15, 32] M M_34 := hF.tr hF2 (by decide)
            refine lv_aload_n hx hb dX13_hidden_81 rfl (lv_at hl 1 rfl) ?_
            refine lv_aload hx hb dX13_hidden_82 (lv_at hl 0 rfl) ?_
            refine lv_aload hx hb dX13_hidden_84 (lv_at hl 0 rfl) ?_
            refine lv_iload_n hx hb dX13_hidden_86 rfl (lv_at hl 3 rfl) ?_
            have hPc : va_P D vwCl ([] ++ va_pl L M_34) H_32 := hP.part (cx := []) [] rfl
            have hDc : va_D A ([] ++ va_pl L M_34) := hD.part (cx := []) [] (by decide) rfl
            have hFc : ∀ q, va_A ([] ++ va_pl L M_34) H_32.size q → A q := pg_free hDc hS hA
            refine va_calli (va_runV (As := [.int k2]) (rest := [.ref b11, .ref za]) ⟨hx, hb, hml, hown, hg⟩ (r_ruleOnP l D cy K L M_34 H_32.size b11 k2  hW hb_13 (RLD.of hW (RLI.fr hW0 hRL hF (by decide) (by decide)) hb_13 hM_39 hv15 (by omega) hc15 hv24 (Int32.not_lt.mp c_25))) (cwV 1 hg (gV wd_815 wd_816 wd_817 wd_737 wd_818) rfl rfl rfl (by decide +kernel) ⟨(Nat.le_trans (Nat.le_of_ble_eq_true rfl) hRf), (Nat.le_trans (Nat.le_of_ble_eq_true rfl) hRl)⟩) ⟨PG.blind, pg_recv hK hP hb_13.1 hM_39 rfl, fun U hU hW => ⟨rfl, PG.at hPc hK hDc hN hU hW⟩⟩ rfl rfl hl.1 rfl (lv_room (Nat.le_of_ble_eq_true rfl)) dX13_hidden_87 ⟨(Nat.le_trans (Nat.le_of_ble_eq_true rfl) hRc), (Nat.le_trans (Nat.le_of_ble_eq_true rfl) hRs)⟩) hS (fun q _ h => hFc q h) hFc (fun r_41 M_42 t H_40 locs ht hvm hw hB hz1 hk1 hS => ?_)
            have hp_43 := hw
            obtain ⟨hP1, hD1⟩ := hB
            rw [ht] at hP1
            obtain ⟨hP, hD⟩ := va_joinP (X := [(za, .inr (13, [.int 0, .ref z1, .int (nI z2), .int (nI z3), .int z4, .int z5, .ref z6, .ref z7, .ref z8, .ref z9, .int (nI z10), .ref z11, .ref z12, .ref z13, .ref z14, .ref z15, .int (nI w16_36), .ref z17, .int z18, .ref z19]))]) (cx := []) (wr := [(za, .inr (13, [.int 0, .ref z1, .int (nI z2), .int (nI z3), .int z4, .int z5, .ref z6, .ref z7, .ref z8, .ref z9, .int (nI z10), .ref z11, .ref z12, .ref z13, .ref z14, .ref z15, .int (nI w16_36), .ref z17, .int z18, .ref z19]))]) (rx := []) (pl := va_pl L M_34) (pl1 := va_pl L M_34) hP hD [] [0] rfl rfl (by decide) (by decide) hk1 hFc hP1 hD1
            have hP : va_P D vwCl ([(za, .inr (13, [.int 0, .ref z1, .int (nI z2), .int (nI z3), .int z4, .int z5, .ref z6, .ref z7, .ref z8, .ref z9, .int (nI z10), .ref z11, .ref z12, .ref z13, .ref z14, .ref z15, .int (nI w16_36), .ref z17, .int z18, .ref z19]))] ++ va_pl L M_34) H_40 := hP
            have hD : va_D A ([(za, .inr (13, [.int 0, .ref z1, .int (nI z2), .int (nI z3), .int z4, .int z5, .ref z6, .ref z7, .ref z8, .ref z9, .int (nI z10), .ref z11, .ref z12, .ref z13, .ref z14, .ref z15, .int (nI w16_36), .ref z17, .int z18, .ref z19]))] ++ va_pl L M_34) := hD
            obtain ⟨j_44, rfl, c_45⟩ := hp_43
            refine lv_iconst (v := 2) hx hb dX13_hidden_90 (by decide) ?_
            have hPc : va_P D vwCl ([(za, .inr (13, [.int 0, .ref z1, .int (nI z2), .int (nI z3), .int z4, .int z5, .ref z6, .ref z7, .ref z8, .ref z9, .int (nI z10), .ref z11, .ref z12, .ref z13, .ref z14, .ref z15, .int (nI w16_36), .ref z17, .int z18, .ref z19]))] ++ va_pl L M_34) H_40 := hP
            have hDc : va_D A ([(za, .inr (13, [.int 0, .ref z1, .int (nI z2), .int (nI z3), .int z4, .int z5, .ref z6, .ref z7, .ref z8, .ref z9, .int (nI z10), .ref z11, .ref z12, .ref z13, .ref z14, .ref z15, .int (nI w16_36), .ref z17, .int z18, .ref z19]))] ++ va_pl L M_34) := hD
            have hFc : ∀ q, va_A ([(za, .inr (13, [.int 0, .ref z1, .int (nI z2), .int (nI z3), .int z4, .int z5, .ref z6, .ref z7, .ref z8, .ref z9, .int (nI z10), .ref z11, .ref z12, .ref z13, .ref z14, .ref z15, .int (nI w16_36), .ref z17, .int z18, .ref z19]))] ++ va_pl L M_34) H_40.size q → A q := pg_free hDc hS hA
            refine va_callv (va_runV (As := [.ref b11, .int (nI j_44), .int 2]) (rest := []) ⟨hx, hb, hml, hown, hg⟩ (r_X13_weights l D cy K L M_34 H_40.size za 0 z1 z2 z3 z4 z5 z6 z7 z8 z9 z10 z11 z12 z13 z14 z15 w16_36 z17 z18 z19 b11 j_44 2  hW i1 b2 b3 i6 i7 i8 i9 b10 i11 i12 i13 i14 i15 (by omega) i17 i19 hb_13 c_45 (by omega)) (cwV 3 hg (gV wd_795 wd_796 wd_797 wd_717 wd_798) rfl rfl rfl (by decide +kernel) ⟨(Nat.le_trans (Nat.le_of_ble_eq_true rfl) hRf), (Nat.le_trans (Nat.le_of_ble_eq_true rfl) hRl)⟩) ⟨PG.blind, va_recv hK hP (ci := 13) (q0 := 0) rfl rfl, fun U hU hW => ⟨rfl, PG.at hPc hK hDc hN hU hW⟩⟩ rfl rfl hl.1 rfl (lv_room (Nat.le_of_ble_eq_true rfl)) dX13_hidden_91 ⟨(Nat.le_trans (Nat.le_of_ble_eq_true rfl) hRc), (Nat.le_trans (Nat.le_of_ble_eq_true rfl) hRs)⟩) hS (fun q _ h => hFc q h) hFc (fun M_48 t H_46 locs ht hvm hw hB hz1 hk1 hS => ?_)
            obtain ⟨hW, hF2, hp_49⟩ := hw
            obtain ⟨hP1, hD1⟩ := hB
            rw [ht] at hP1
            have hP : va_P D vwCl ([(za, .inr (13, [.int 0, .ref z1, .int (nI z2), .int (nI z3), .int z4, .int z5, .ref z6, .ref z7, .ref z8, .ref z9, .int (nI z10), .ref z11, .ref z12, .ref z13, .ref z14, .ref z15, .int (nI w16_36), .ref z17, .int z18, .ref z19]))] ++ va_pl L M_48) H_46 := hP1
            have hD : va_D A ([(za, .inr (13, [.int 0, .ref z1, .int (nI z2), .int (nI z3), .int z4, .int z5, .ref z6, .ref z7, .ref z8, .ref z9, .int (nI z10), .ref z11, .ref z12, .ref z13, .ref z14, .ref z15, .int (nI w16_36), .ref z17, .int z18, .ref z19]))] ++ va_pl L M_48) := hD1.mono hFc
            have hM_50 : M_48 z1 = .inl (cy 23, 8, .inr (.inr (.inr (.inr (f9))))) := (hF2.at i1 (by decide)).trans hM_38
            have hM_51 : M_48 b11 = .inr (12, fs14) := (hF2.at hb_13 (by decide)).trans hM_39
            have hF : fr K L [14, 15, 32] M M_48 := hF.tr hF2 (by decide)
            refine lv_aload_n hx hb dX13_hidden_94 rfl (lv_at hl 1 rfl) ?_
            refine lv_iload_n hx hb dX13_hidden_95 rfl (lv_at hl 4 rfl) ?_
            refine lv_i2l hx hb dX13_hidden_96 rfl ?_
            refine lv_topl (fun f_52 ef_52 => ?_)
            refine lv_aload_n hx hb dX13_hidden_97 rfl (lv_at hl 1 rfl) ?_
            refine va_get (D := D) (ci := 13) (v := .ref z13) (C := RX13) (T := TX13) (N := 20) hx hb hg inG13 hown hK hP 0 rfl rfl 13 (by decide) (hg _ wd_789) (fun _ h9 => h9) rfl dX13_hidden_98 ?_
            refine lv_iconst (v := 0) hx hb dX13_hidden_101 (by decide) ?_
            refine lv_aload hx hb dX13_hidden_102 (lv_at hl 0 rfl) ?_
            have hPc : va_P D vwCl ([(za, .inr (13, [.int 0, .ref z1, .int (nI z2), .int (nI z3), .int z4, .int z5, .ref z6, .ref z7, .ref z8, .ref z9, .int (nI z10), .ref z11, .ref z12, .ref z13, .ref z14, .ref z15, .int (nI w16_36), .ref z17, .int z18, .ref z19]))] ++ va_pl L M_48) H_46 := hP
            have hDc : va_D A ([(za, .inr (13, [.int 0, .ref z1, .int (nI z2), .int (nI z3), .int z4, .int z5, .ref z6, .ref z7, .ref z8, .ref z9, .int (nI z10), .ref z11, .ref z12, .ref z13, .ref z14, .ref z15, .int (nI w16_36), .ref z17, .int z18, .ref z19]))] ++ va_pl L M_48) := hD
            have hFc : ∀ q, va_A ([(za, .inr (13, [.int 0, .ref z1, .int (nI z2), .int (nI z3), .int z4, .int z5, .ref z6, .ref z7, .ref z8, .ref z9, .int (nI z10), .ref z11, .ref z12, .ref z13, .ref z14, .ref z15, .int (nI w16_36), .ref z17, .int z18, .ref z19]))] ++ va_pl L M_48) H_46.size q → A q := pg_free hDc hS hA
            refine va_calli (va_runV (As := [.long f_52, .ref z13, .int 0, .ref b11]) (rest := []) ⟨hx, hb, hml, hown, hg⟩ (r_X13_cut l D cy K L M_48 H_46.size za 0 z1 z2 z3 z4 z5 z6 z7 z8 z9 z10 z11 z12 z13 z14 z15 w16_36 z17 z18 z19 f_52 z13 0 b11  hW i1 b2 b3 i6 i7 i8 i9 b10 i11 i12 i13 i14 i15 (by omega) i17 i19 i13 hb_13) (cwV 4 hg (gV wd_790 wd_791 wd_792 wd_717 wd_793) rfl rfl rfl (by decide +kernel) ⟨(Nat.le_trans (Nat.le_of_ble_eq_true rfl) hRf), (Nat.le_trans (Nat.le_of_ble_eq_true rfl) hRl)⟩) ⟨PG.blind, va_recv hK hP (ci := 13) (q0 := 0) rfl rfl, fun U hU hW => ⟨rfl, PG.at hPc hK hDc hN hU hW⟩⟩ rfl rfl hl.1 rfl (lv_room (Nat.le_of_ble_eq_true rfl)) dX13_hidden_104 ⟨(Nat.le_trans (Nat.le_of_ble_eq_true rfl) hRc), (Nat.le_trans (Nat.le_of_ble_eq_true rfl) hRs)⟩) hS (fun q _ h => hFc q h) hFc (fun r_54 M_55 t H_53 locs ht hvm hw hB hz1 hk1 hS => ?_)
            obtain ⟨hW, hF2, hp_56⟩ := hw
            obtain ⟨hP1, hD1⟩ := hB
            rw [ht] at hP1
            have hP : va_P D vwCl ([(za, .inr (13, [.int 0, .ref z1, .int (nI z2), .int (nI z3), .int z4, .int z5, .ref z6, .ref z7, .ref z8, .ref z9, .int (nI z10), .ref z11, .ref z12, .ref z13, .ref z14, .ref z15, .int (nI w16_36), .ref z17, .int z18, .ref z19]))] ++ va_pl L M_55) H_53 := hP1
            have hD : va_D A ([(za, .inr (13, [.int 0, .ref z1, .int (nI z2), .int (nI z3), .int z4, .int z5, .ref z6, .ref z7, .ref z8, .ref z9, .int (nI z10), .ref z11, .ref z12, .ref z13, .ref z14, .ref z15, .int (nI w16_36), .ref z17, .int z18, .ref z19]))] ++ va_pl L M_55) := hD1.mono hFc
            have hM_57 : M_55 z1 = .inl (cy 23, 8, .inr (.inr (.inr (.inr (f9))))) := (hF2.at i1 (by decide)).trans hM_50
            have hM_58 : M_55 b11 = .inr (12, fs14) := (hF2.at hb_13 (by decide)).trans hM_51
            have hF : fr K L [14, 15, 32] M M_55 := hF.tr hF2 (by decide)
            rcases hp_56 with rfl | rfl
            · have hz := rfl (a := 0)
              refine lv_if_ne (tgt := 116) hx hb dX13_hidden_107 (by decide) (fun _ => ?_) (fun c_59 => absurd c_59 (by decide))
              refine lv_iconst (v := 0) hx hb dX13_hidden_116 (by decide) ?_
              refine lv_istore (lv' := [(5, .int 0), (4, .ref b11), (0, .ref za), (1, .int k1), (2, .int k2), (3, .int k3)]) hx hb dX13_hidden_117 hl (by decide) rfl (fun ls hl => ?_)
              have key_60 : ∀ (fu_62 : Nat) (v5w63 : Nat) (M_65 : Hp) (H_66 : Heap) (locs : List Loc) (ls : Array Slot), 24 - v5w63 < fu_62 → v5w63 ≤ 24 → WOM cy K L M_65 → fr K L [14, 15, 32] M M_65 → va_P D vwCl ([(za, .inr (13, [.int 0, .ref z1, .int (nI z2), .int (nI z3), .int z4, .int z5, .ref z6, .ref z7, .ref z8, .ref z9, .int (nI z10), .ref z11, .ref z12, .ref z13, .ref z14, .ref z15, .int (nI w16_36), .ref z17, .int z18, .ref z19]))] ++ va_pl L M_65) H_66 → va_D A ([(za, .inr (13, [.int 0, .ref z1, .int (nI z2), .int (nI z3), .int z4, .int z5, .ref z6, .ref z7, .ref z8, .ref z9, .int (nI z10), .ref z11, .ref z12, .ref z13, .ref z14, .ref z15, .int (nI w16_36), .ref z17, .int z18, .ref z19]))] ++ va_pl L M_65) → va_S A s.heap H_66 locs → lv_has ls 6 [(5, .int (nI v5w63)), (4, .ref b11), (0, .ref za), (1, .int k1), (2, .int k2), (3, .int k3)] → W p l e R s m ([.ref za, .int k1, .int k2, .int k3] : List Value).toArray below meth c H_66 locs 0 0 Q (F0 m 119 ls []) := by
                intro fu_62
                induction fu_62 with
                | zero => intro v5w63 M_65 H_66 locs ls h; exact absurd h (Nat.not_lt_zero _)
                | succ fu_62 ih_61 =>
                  intro v5w63 M_65 H_66 locs ls hfu hx_64 hW hF hP hD hS hl
                  refine lv_iload hx hb dX13_hidden_119 (lv_at hl 0 rfl) ?_
                  refine lv_aload_n hx hb dX13_hidden_121 rfl (lv_at hl 2 rfl) ?_
                  refine va_get (D := D) (ci := 13) (v := .int (nI w16_36)) (C := RX13) (T := TX13) (N := 20) hx hb hg inG13 hown hK hP 0 rfl rfl 16 (by decide) (hg _ wd_769) (fun _ h9 => h9) rfl dX13_hidden_122 ?_
                  refine lv_icmp_ge (tgt := 157) hx hb dX13_hidden_125 (by decide) (fun c_67 => ?_) (fun c_67 => ?_)
                  · have hz := rfl (a := 0)
                    have n_68 : w16_36 ≤ v5w63 := (iLE (a := w16_36) (b := v5w63) (by omega) (by omega)).mp c_67
                    refine lv_aload_n hx hb dX13_hidden_157 rfl (lv_at hl 2 rfl) ?_
                    refine lv_iload_n hx hb dX13_hidden_158 rfl (lv_at hl 5 rfl) ?_
                    have hPc := hP.sub (ws' := [(za, .inr (13, [.int 0, .ref z1, .int (nI z2), .int (nI z3), .int z4, .int z5, .ref z6, .ref z7, .ref z8, .ref z9, .int (nI z10), .ref z11, .ref z12, .ref z13, .ref z14, .ref z15, .int (nI w16_36), .ref z17, .int z18, .ref z19]))]) [0] rfl
                    have hDc := hD.sub (ws' := [(za, .inr (13, [.int 0, .ref z1, .int (nI z2), .int (nI z3), .int z4, .int z5, .ref z6, .ref z7, .ref z8, .ref z9, .int (nI z10), .ref z11, .ref z12, .ref z13, .ref z14, .ref z15, .int (nI w16_36), .ref z17, .int z18, .ref z19]))]) [0] (by decide) rfl
                    have hKc := hK.sub (tys' := []) [] rfl
                    have hFc := va_free (wc := [(za, .inr (13, [.int 0, .ref z1, .int (nI z2), .int (nI z3), .int z4, .int z5, .ref z6, .ref z7, .ref z8, .ref z9, .int (nI z10), .ref z11, .ref z12, .ref z13, .ref z14, .ref z15, .int (nI w16_36), .ref z17, .int z18, .ref z19]))]) hD hS hA [0] rfl
                    refine va_calli (va_runV (As := [.int k3]) (rest := []) ⟨hx, hb, hml, hown, hg⟩ (m_done l D H_66.size za 0 z1 (nI z2) (nI z3) z4 z5 z6 z7 z8 z9 (nI z10) z11 z12 z13 z14 z15 (nI w16_36) z17 z18 z19 k3) (cwV 1 hg (gV wd_730 wd_731 wd_732 wd_717 wd_733) rfl rfl rfl (by decide +kernel) ⟨(Nat.le_trans (Nat.le_of_ble_eq_true rfl) hRf), (Nat.le_trans (Nat.le_of_ble_eq_true rfl) hRl)⟩) ⟨Pr.blind, va_recv hK hP (ci := 13) (q0 := 0) rfl rfl, fun U hU hW => ⟨rfl, Pr.at hPc hKc hDc hN hU hW⟩⟩ rfl rfl hl.1 rfl (lv_room (Nat.le_of_ble_eq_true rfl)) dX13_hidden_159 ⟨(Nat.le_trans (Nat.le_of_ble_eq_true rfl) hRc), (Nat.le_trans (Nat.le_of_ble_eq_true rfl) hRs)⟩) hS (fun q _ h => hFc q h) hFc (fun r_70 M_71 t H_69 locs ht hvm hw hB hz1 hk1 hS => ?_)
                    have hp_72 := hw
                    obtain ⟨hP1, hK1, hD1⟩ := hB
                    rw [ht] at hP1
                    obtain ⟨hP, hD⟩ := va_joinQ (X := [(za, .inr (13, [.int 0, .ref z1, .int (nI z2), .int (nI z3), .int z4, .int z5, .ref z6, .ref z7, .ref z8, .ref z9, .int (nI z10), .ref z11, .ref z12, .ref z13, .ref z14, .ref z15, .int (nI w16_36), .ref z17, .int z18, .ref z19]))]) (cx := [(za, .inr (13, [.int 0, .ref z1, .int (nI z2), .int (nI z3), .int z4, .int z5, .ref z6, .ref z7, .ref z8, .ref z9, .int (nI z10), .ref z11, .ref z12, .ref z13, .ref z14, .ref z15, .int (nI w16_36), .ref z17, .int z18, .ref z19]))]) (wr := []) (w1 := [(za, .inr (13, [.int 0, .ref z1, .int (nI z2), .int (nI z3), .int 0, .int (-1), .ref z6, .ref z7, .ref z8, .ref z9, .int (nI z10), .ref z11, .ref z12, .ref z13, .ref z14, .ref z15, .int (nI w16_36), .ref z17, .int z18, .ref z19]))]) (pl := va_pl L M_65) hP hD [0] [] rfl rfl (by decide) (by decide) hk1 hFc hP1 hD1
                    have hP : va_P D vwCl ([(za, .inr (13, [.int 0, .ref z1, .int (nI z2), .int (nI z3), .int 0, .int (-1), .ref z6, .ref z7, .ref z8, .ref z9, .int (nI z10), .ref z11, .ref z12, .ref z13, .ref z14, .ref z15, .int (nI w16_36), .ref z17, .int z18, .ref z19]))] ++ va_pl L M_65) H_69 := hP
                    have hD : va_D A ([(za, .inr (13, [.int 0, .ref z1, .int (nI z2), .int (nI z3), .int 0, .int (-1), .ref z6, .ref z7, .ref z8, .ref z9, .int (nI z10), .ref z11, .ref z12, .ref z13, .ref z14, .ref z15, .int (nI w16_36), .ref z17, .int z18, .ref z19]))] ++ va_pl L M_65) := hD
                    have hq := Eq.symm hp_72
                    subst hq
                    rw [hQ]
                    exact W.iret (v := k3) hx hb hr (fun t ht hW9 => ⟨⟨k3, M_65, rfl, ⟨hW, hF, trivial⟩, ⟨0, (-1), w16_36, (by omega), by rw [ht]; exact hP, hD⟩⟩, hS.F ht⟩) hS.2.2 dX13_hidden_162
                  · have hz := rfl (a := 0)
                    have n_73 : ¬ (w16_36 ≤ v5w63) := fun q => c_67 ((iLE (a := w16_36) (b := v5w63) (by omega) (by omega)).mpr q)
                    refine lv_aload hx hb dX13_hidden_128 (lv_at hl 1 rfl) ?_
                    obtain ⟨fs74, hM74, hn74, hl74⟩ := hW.open_12 hb_13
                    obtain ⟨v75, hv75, hc75⟩ : ∃ v : Nat, fs74[28]? = some (.ref v : Value) ∧ isk K L v 15 24 := hl74 28 (by decide)
                    refine pg_getN (D := D) (ci := 12) (v := .ref v75) (C := RX12) (T := TX12) (N := 51) hx hb hg inG12 hown hK hP hb_13.1 hM74 rfl 28 (by decide) (hN.use (Cond.fieldLinkNest RX13 370 RX12 "hidden" "[J" RX13) 37 rfl rfl) (fun _ h9 => h9) hv75 dX13_hidden_130 ?_
                    refine lv_aload_n hx hb dX13_hidden_133 rfl (lv_at hl 2 rfl) ?_
                    refine va_get (D := D) (ci := 13) (v := .ref z11) (C := RX13) (T := TX13) (N := 20) hx hb hg inG13 hown hK hP 0 rfl rfl 11 (by decide) (hg _ wd_764) (fun _ h9 => h9) rfl dX13_hidden_134 ?_
                    refine lv_iload hx hb dX13_hidden_137 (lv_at hl 0 rfl) ?_
                    obtain ⟨f76, hM76, hf76⟩ := hW.open_32 i11
                    have hi_77 : vp_in (nI v5w63) 24 := (inbN v5w63 24 (by omega) (by omega))
                    refine pg_iald hx hb hK hP i11.1 0 hM76 rfl hi_77 dX13_hidden_139 ?_
                    have hp_78 := hf76 _ (vp_lt hi_77)
                    obtain ⟨c_79, hc_80, ec_81⟩ := hp_78
                    rw [ec_81]
                    refine lv_dup2_11 hx hb dX13_hidden_140 rfl rfl ?_
                    obtain ⟨f82, hM82⟩ := hW.open_15 hc75
                    refine pg_lald hx hb hK hP hc75.1 1 hM82 rfl (inbN c_79 24 (by omega) (by omega)) dX13_hidden_141 ?_
                    refine lv_topl (fun f_83 ef_83 => ?_)
                    refine lv_aload_n hx hb dX13_hidden_142 rfl (lv_at hl 2 rfl) ?_
                    refine va_get (D := D) (ci := 13) (v := .ref z13) (C := RX13) (T := TX13) (N := 20) hx hb hg inG13 hown hK hP 0 rfl rfl 13 (by decide) (hg _ wd_789) (fun _ h9 => h9) rfl dX13_hidden_143 ?_
                    refine lv_iload hx hb dX13_hidden_146 (lv_at hl 0 rfl) ?_
                    obtain ⟨f84, hM84⟩ := hW.open_15 i13
                    refine pg_lald hx hb hK hP i13.1 1 hM84 rfl (inbN v5w63 24 (by omega) (by omega)) dX13_hidden_148 ?_
                    refine lv_topl (fun f_85 ef_85 => ?_)
                    refine lv_ladd hx hb dX13_hidden_149 ?_
                    refine lv_topl (fun f_86 ef_86 => ?_)
                    refine pg_last hx hb hK hP hD hS hc75.1 1 hM82 rfl (inbN c_79 24 (by omega) (by omega)) dX13_hidden_150 (fun H_87 locs hP hD hS => ?_)
                    obtain ⟨M_88, eM_88⟩ : ∃ M1 : Hp, M1 = va_up M_65 v75 (.inl (cy 15, 24, .inr (.inl (vp_updL f82 ((nI c_79) : Int32).toNatClampNeg f_86)))) := ⟨_, rfl⟩
                    have hP : va_P D vwCl ([(za, .inr (13, [.int 0, .ref z1, .int (nI z2), .int (nI z3), .int z4, .int z5, .ref z6, .ref z7, .ref z8, .ref z9, .int (nI z10), .ref z11, .ref z12, .ref z13, .ref z14, .ref z15, .int (nI w16_36), .ref z17, .int z18, .ref z19]))] ++ va_pl L M_88) H_87 := by rw [eM_88]; exact hP
                    have hD : va_D A ([(za, .inr (13, [.int 0, .ref z1, .int (nI z2), .int (nI z3), .int z4, .int z5, .ref z6, .ref z7, .ref z8, .ref z9, .int (nI z10), .ref z11, .ref z12, .ref z13, .ref z14, .ref z15, .int (nI w16_36), .ref z17, .int z18, .ref z19]))] ++ va_pl L M_88) := by rw [eM_88]; exact hD
                    have hW : WOM cy K L M_88 := by rw [eM_88]; exact hW.up_15 hc75 ⟨_, rfl⟩
                    have hF : fr K L [14, 15, 32] M M_88 := by rw [eM_88]; exact hF.up hc75 (by decide)
                    have hM_89 : M_88 v75 = .inl (cy 15, 24, .inr (.inl (vp_updL f82 ((nI c_79) : Int32).toNatClampNeg f_86))) := by rw [eM_88]; exact va_up_self _ _ _
                    have hM_90 : M_88 b11 = .inr (12, fs74) := by rw [eM_88, va_up_ne _ _ (hb_13.neT hc75 (by decide))]; exact hM74
                    have hM_91 : M_88 z11 = .inl (cy 14, 24, .inl (f76)) := by rw [eM_88, va_up_ne _ _ (i11.neT hc75 (by decide))]; exact hM76
                    obtain ⟨f_92, ef_92⟩ : ∃ f : Nat → Int64, f = vp_updL f82 ((nI c_79) : Int32).toNatClampNeg f_86 := ⟨_, rfl⟩
                    rw [← ef_92] at hM_89
                    clear ef_92
                    refine lv_iinc (v := (nI (v5w63 + 1))) (lv' := [(5, .int (nI (v5w63 + 1))), (4, .ref b11), (0, .ref za), (1, .int k1), (2, .int k2), (3, .int k3)]) hx hb dX13_hidden_151 hl (k := 0) rfl (nI_1 v5w63) (by decide) rfl (fun ls hl => ?_)
                    refine lv_goto (tgt := 119) hx hb dX13_hidden_154 (by decide) ?_
                    exact ih_61 (v5w63 + 1) M_88 H_87 _ _ (by omega) (by omega) hW hF hP hD hS (lv_sub hl [0, 1, 2, 3, 4, 5] rfl)
              exact key_60 (24 - 0 + 1) 0 M_55 H_53 _ _ (by omega) (by omega) hW hF hP hD hS (lv_sub hl [0, 1, 2, 3, 4, 5] rfl)
            · have hz := rfl (a := 0)
              refine lv_if_ne (tgt := 116) hx hb dX13_hidden_107 (by decide) (fun c_93 => absurd c_93 (by decide)) (fun _ => ?_)
              refine lv_aload_n hx hb dX13_hidden_110 rfl (lv_at hl 1 rfl) ?_
              refine lv_iconst (v := 0) hx hb dX13_hidden_111 (by decide) ?_
              have hPc := hP.sub (ws' := [(za, .inr (13, [.int 0, .ref z1, .int (nI z2), .int (nI z3), .int z4, .int z5, .ref z6, .ref z7, .ref z8, .ref z9, .int (nI z10), .ref z11, .ref z12, .ref z13, .ref z14, .ref z15, .int (nI w16_36), .ref z17, .int z18, .ref z19]))]) [0] rfl
              have hDc := hD.sub (ws' := [(za, .inr (13, [.int 0, .ref z1, .int (nI z2), .int (nI z3), .int z4, .int z5, .ref z6, .ref z7, .ref z8, .ref z9, .int (nI z10), .ref z11, .ref z12, .ref z13, .ref z14, .ref z15, .int (nI w16_36), .ref z17, .int z18, .ref z19]))]) [0] (by decide) rfl
              have hKc := hK.sub (tys' := []) [] rfl
              have hFc := va_free (wc := [(za, .inr (13, [.int 0, .ref z1, .int (nI z2), .int (nI z3), .int z4, .int z5, .ref z6, .ref z7, .ref z8, .ref z9, .int (nI z10), .ref z11, .ref z12, .ref z13, .ref z14, .ref z15, .int (nI w16_36), .ref z17, .int z18, .ref z19]))]) hD hS hA [0] rfl
              refine va_calli (va_runV (As := [.int 0]) (rest := []) ⟨hx, hb, hml, hown, hg⟩ (m_done l D H_53.size za 0 z1 (nI z2) (nI z3) z4 z5 z6 z7 z8 z9 (nI z10) z11 z12 z13 z14 z15 (nI w16_36) z17 z18 z19 0) (cwV 1 hg (gV wd_730 wd_731 wd_732 wd_717 wd_733) rfl rfl rfl (by decide +kernel) ⟨(Nat.le_trans (Nat.le_of_ble_eq_true rfl) hRf), (Nat.le_trans (Nat.le_of_ble_eq_true rfl) hRl)⟩) ⟨Pr.blind, va_recv hK hP (ci := 13) (q0 := 0) rfl rfl, fun U hU hW => ⟨rfl, Pr.at hPc hKc hDc hN hU hW⟩⟩ rfl rfl hl.1 rfl (lv_room (Nat.le_of_ble_eq_true rfl)) dX13_hidden_112 ⟨(Nat.le_trans (Nat.le_of_ble_eq_true rfl) hRc), (Nat.le_trans (Nat.le_of_ble_eq_true rfl) hRs)⟩) hS (fun q _ h => hFc q h) hFc (fun r_95 M_96 t H_94 locs ht hvm hw hB hz1 hk1 hS => ?_)
              have hp_97 := hw
              obtain ⟨hP1, hK1, hD1⟩ := hB
              rw [ht] at hP1
              obtain ⟨hP, hD⟩ := va_joinQ (X := [(za, .inr (13, [.int 0, .ref z1, .int (nI z2), .int (nI z3), .int z4, .int z5, .ref z6, .ref z7, .ref z8, .ref z9, .int (nI z10), .ref z11, .ref z12, .ref z13, .ref z14, .ref z15, .int (nI w16_36), .ref z17, .int z18, .ref z19]))]) (cx := [(za, .inr (13, [.int 0, .ref z1, .int (nI z2), .int (nI z3), .int z4, .int z5, .ref z6, .ref z7, .ref z8, .ref z9, .int (nI z10), .ref z11, .ref z12, .ref z13, .ref z14, .ref z15, .int (nI w16_36), .ref z17, .int z18, .ref z19]))]) (wr := []) (w1 := [(za, .inr (13, [.int 0, .ref z1, .int (nI z2), .int (nI z3), .int 0, .int (-1), .ref z6, .ref z7, .ref z8, .ref z9, .int (nI z10), .ref z11, .ref z12, .ref z13, .ref z14, .ref z15, .int (nI w16_36), .ref z17, .int z18, .ref z19]))]) (pl := va_pl L M_55) hP hD [0] [] rfl rfl (by decide) (by decide) hk1 hFc hP1 hD1
              have hP : va_P D vwCl ([(za, .inr (13, [.int 0, .ref z1, .int (nI z2), .int (nI z3), .int 0, .int (-1), .ref z6, .ref z7, .ref z8, .ref z9, .int (nI z10), .ref z11, .ref z12, .ref z13, .ref z14, .ref z15, .int (nI w16_36), .ref z17, .int z18, .ref z19]))] ++ va_pl L M_55) H_94 := hP
              have hD : va_D A ([(za, .inr (13, [.int 0, .ref z1, .int (nI z2), .int (nI z3), .int 0, .int (-1), .ref z6, .ref z7, .ref z8, .ref z9, .int (nI z10), .ref z11, .ref z12, .ref z13, .ref z14, .ref z15, .int (nI w16_36), .ref z17, .int z18, .ref z19]))] ++ va_pl L M_55) := hD
              have hq := Eq.symm hp_97
              subst hq
              rw [hQ]
              exact W.iret (v := 0) hx hb hr (fun t ht hW9 => ⟨⟨0, M_55, rfl, ⟨hW, hF, trivial⟩, ⟨0, (-1), w16_36, (by omega), by rw [ht]; exact hP, hD⟩⟩, hS.F ht⟩) hS.2.2 dX13_hidden_115
          · have hz := rfl (a := 0)
            refine lv_aload_n hx hb dX13_hidden_68 rfl (lv_at hl 1 rfl) ?_
            refine lv_iconst (v := 3) hx hb dX13_hidden_69 (by decide) ?_
            have hPc := hP.sub (ws' := [(za, .inr (13, [.int 0, .ref z1, .int (nI z2), .int (nI z3), .int z4, .int z5, .ref z6, .ref z7, .ref z8, .ref z9, .int (nI z10), .ref z11, .ref z12, .ref z13, .ref z14, .ref z15, .int (nI z16), .ref z17, .int z18, .ref z19]))]) [0] rfl
            have hDc := hD.sub (ws' := [(za, .inr (13, [.int 0, .ref z1, .int (nI z2), .int (nI z3), .int z4, .int z5, .ref z6, .ref z7, .ref z8, .ref z9, .int (nI z10), .ref z11, .ref z12, .ref z13, .ref z14, .ref z15, .int (nI z16), .ref z17, .int z18, .ref z19]))]) [0] (by decide) rfl
            have hKc := hK.sub (tys' := []) [] rfl
            have hFc := va_free (wc := [(za, .inr (13, [.int 0, .ref z1, .int (nI z2), .int (nI z3), .int z4, .int z5, .ref z6, .ref z7, .ref z8, .ref z9, .int (nI z10), .ref z11, .ref z12, .ref z13, .ref z14, .ref z15, .int (nI z16), .ref z17, .int z18, .ref z19]))]) hD hS hA [0] rfl
            refine va_calli (va_runV (As := [.int 3]) (rest := []) ⟨hx, hb, hml, hown, hg⟩ (m_refused l D H_18.size za 0 z1 (nI z2) (nI z3) z4 z5 z6 z7 z8 z9 (nI z10) z11 z12 z13 z14 z15 (nI z16) z17 z18 z19 3) (cwV 1 hg (gV wd_725 wd_726 wd_727 wd_717 wd_728) rfl rfl rfl (by decide +kernel) ⟨(Nat.le_trans (Nat.le_of_ble_eq_true rfl) hRf), (Nat.le_trans (Nat.le_of_ble_eq_true rfl) hRl)⟩) ⟨Pr.blind, va_recv hK hP (ci := 13) (q0 := 0) rfl rfl, fun U hU hW => ⟨rfl, Pr.at hPc hKc hDc hN hU hW⟩⟩ rfl rfl hl.1 rfl (lv_room (Nat.le_of_ble_eq_true rfl)) dX13_hidden_70 ⟨(Nat.le_trans (Nat.le_of_ble_eq_true rfl) hRc), (Nat.le_trans (Nat.le_of_ble_eq_true rfl) hRs)⟩) hS (fun q _ h => hFc q h) hFc (fun r_99 M_100 t H_98 locs ht hvm hw hB hz1 hk1 hS => ?_)
            have hp_101 := hw
            obtain ⟨hP1, hK1, hD1⟩ := hB
            rw [ht] at hP1
            obtain ⟨hP, hD⟩ := va_joinQ (X := [(za, .inr (13, [.int 0, .ref z1, .int (nI z2), .int (nI z3), .int z4, .int z5, .ref z6, .ref z7, .ref z8, .ref z9, .int (nI z10), .ref z11, .ref z12, .ref z13, .ref z14, .ref z15, .int (nI z16), .ref z17, .int z18, .ref z19]))]) (cx := [(za, .inr (13, [.int 0, .ref z1, .int (nI z2), .int (nI z3), .int z4, .int z5, .ref z6, .ref z7, .ref z8, .ref z9, .int (nI z10), .ref z11, .ref z12, .ref z13, .ref z14, .ref z15, .int (nI z16), .ref z17, .int z18, .ref z19]))]) (wr := []) (w1 := [(za, .inr (13, [.int 0, .ref z1, .int (nI z2), .int (nI z3), .int 3, .int (-1), .ref z6, .ref z7, .ref z8, .ref z9, .int (nI z10), .ref z11, .ref z12, .ref z13, .ref z14, .ref z15, .int (nI z16), .ref z17, .int z18, .ref z19]))]) (pl := va_pl L M) hP hD [0] [] rfl rfl (by decide) (by decide) hk1 hFc hP1 hD1
            have hP : va_P D vwCl ([(za, .inr (13, [.int 0, .ref z1, .int (nI z2), .int (nI z3), .int 3, .int (-1), .ref z6, .ref z7, .ref z8, .ref z9, .int (nI z10), .ref z11, .ref z12, .ref z13, .ref z14, .ref z15, .int (nI z16), .ref z17, .int z18, .ref z19]))] ++ va_pl L M) H_98 := hP
            have hD : va_D A ([(za, .inr (13, [.int 0, .ref z1, .int (nI z2), .int (nI z3), .int 3, .int (-1), .ref z6, .ref z7, .ref z8, .ref z9, .int (nI z10), .ref z11, .ref z12, .ref z13, .ref z14, .ref z15, .int (nI z16), .ref z17, .int z18, .ref z19]))] ++ va_pl L M) := hD
            have hq := Eq.symm hp_101
            subst hq
            rw [hQ]
            exact W.iret (v := (-1)) hx hb hr (fun t ht hW9 => ⟨⟨(-1), M, rfl, ⟨hW, hF, trivial⟩, ⟨3, (-1), z16, (by omega), by rw [ht]; exact hP, hD⟩⟩, hS.F ht⟩) hS.2.2 dX13_hidden_73
      · have hz := rfl (a := 0)
        refine lv_if_ne (tgt := 44) hx hb dX13_hidden_35 (by decide) (fun c_102 => absurd c_102 (by decide)) (fun _ => ?_)
        refine lv_aload_n hx hb dX13_hidden_38 rfl (lv_at hl 0 rfl) ?_
        refine lv_iconst (v := 2) hx hb dX13_hidden_39 (by decide) ?_
        have hPc := hP.sub (ws' := [(za, .inr (13, [.int 0, .ref z1, .int (nI z2), .int (nI z3), .int z4, .int z5, .ref z6, .ref z7, .ref z8, .ref z9, .int (nI z10), .ref z11, .ref z12, .ref z13, .ref z14, .ref z15, .int (nI z16), .ref z17, .int z18, .ref z19]))]) [0] rfl
        have hDc := hD.sub (ws' := [(za, .inr (13, [.int 0, .ref z1, .int (nI z2), .int (nI z3), .int z4, .int z5, .ref z6, .ref z7, .ref z8, .ref z9, .int (nI z10), .ref z11, .ref z12, .ref z13, .ref z14, .ref z15, .int (nI z16), .ref z17, .int z18, .ref z19]))]) [0] (by decide) rfl
        have hKc := hK.sub (tys' := []) [] rfl
        have hFc := va_free (wc := [(za, .inr (13, [.int 0, .ref z1, .int (nI z2), .int (nI z3), .int z4, .int z5, .ref z6, .ref z7, .ref z8, .ref z9, .int (nI z10), .ref z11, .ref z12, .ref z13, .ref z14, .ref z15, .int (nI z16), .ref z17, .int z18, .ref z19]))]) hD hS hA [0] rfl
        refine va_calli (va_runV (As := [.int 2]) (rest := []) ⟨hx, hb, hml, hown, hg⟩ (m_refused l D H_18.size za 0 z1 (nI z2) (nI z3) z4 z5 z6 z7 z8 z9 (nI z10) z11 z12 z13 z14 z15 (nI z16) z17 z18 z19 2) (cwV 1 hg (gV wd_725 wd_726 wd_727 wd_717 wd_728) rfl rfl rfl (by decide +kernel) ⟨(Nat.le_trans (Nat.le_of_ble_eq_true rfl) hRf), (Nat.le_trans (Nat.le_of_ble_eq_true rfl) hRl)⟩) ⟨Pr.blind, va_recv hK hP (ci := 13) (q0 := 0) rfl rfl, fun U hU hW => ⟨rfl, Pr.at hPc hKc hDc hN hU hW⟩⟩ rfl rfl hl.1 rfl (lv_room (Nat.le_of_ble_eq_true rfl)) dX13_hidden_40 ⟨(Nat.le_trans (Nat.le_of_ble_eq_true rfl) hRc), (Nat.le_trans (Nat.le_of_ble_eq_true rfl) hRs)⟩) hS (fun q _ h => hFc q h) hFc (fun r_104 M_105 t H_103 locs ht hvm hw hB hz1 hk1 hS => ?_)
        have hp_106 := hw
        obtain ⟨hP1, hK1, hD1⟩ := hB
        rw [ht] at hP1
        obtain ⟨hP, hD⟩ := va_joinQ (X := [(za, .inr (13, [.int 0, .ref z1, .int (nI z2), .int (nI z3), .int z4, .int z5, .ref z6, .ref z7, .ref z8, .ref z9, .int (nI z10), .ref z11, .ref z12, .ref z13, .ref z14, .ref z15, .int (nI z16), .ref z17, .int z18, .ref z19]))]) (cx := [(za, .inr (13, [.int 0, .ref z1, .int (nI z2), .int (nI z3), .int z4, .int z5, .ref z6, .ref z7, .ref z8, .ref z9, .int (nI z10), .ref z11, .ref z12, .ref z13, .ref z14, .ref z15, .int (nI z16), .ref z17, .int z18, .ref z19]))]) (wr := []) (w1 := [(za, .inr (13, [.int 0, .ref z1, .int (nI z2), .int (nI z3), .int 2, .int (-1), .ref z6, .ref z7, .ref z8, .ref z9, .int (nI z10), .ref z11, .ref z12, .ref z13, .ref z14, .ref z15, .int (nI z16), .ref z17, .int z18, .ref z19]))]) (pl := va_pl L M) hP hD [0] [] rfl rfl (by decide) (by decide) hk1 hFc hP1 hD1
        have hP : va_P D vwCl ([(za, .inr (13, [.int 0, .ref z1, .int (nI z2), .int (nI z3), .int 2, .int (-1), .ref z6, .ref z7, .ref z8, .ref z9, .int (nI z10), .ref z11, .ref z12, .ref z13, .ref z14, .ref z15, .int (nI z16), .ref z17, .int z18, .ref z19]))] ++ va_pl L M) H_103 := hP
        have hD : va_D A ([(za, .inr (13, [.int 0, .ref z1, .int (nI z2), .int (nI z3), .int 2, .int (-1), .ref z6, .ref z7, .ref z8, .ref z9, .int (nI z10), .ref z11, .ref z12, .ref z13, .ref z14, .ref z15, .int (nI z16), .ref z17, .int z18, .ref z19]))] ++ va_pl L M) := hD
        have hq := Eq.symm hp_106
        subst hq
        rw [hQ]
        exact W.iret (v := (-1)) hx hb hr (fun t ht hW9 => ⟨⟨(-1), M, rfl, ⟨hW, hF, trivial⟩, ⟨2, (-1), z16, (by omega), by rw [ht]; exact hP, hD⟩⟩, hS.F ht⟩) hS.2.2 dX13_hidden_43
    · have hz := rfl (a := 0)
      have n_107 : v15 = 0 := (iEQ (a := v15) (b := 0) (by omega) (by omega)).mp c_16
      refine lv_aload_n hx hb dX13_hidden_25 rfl (lv_at hl 0 rfl) ?_
      refine lv_iconst (v := 1) hx hb dX13_hidden_26 (by decide) ?_
      have hPc := hP.sub (ws' := [(za, .inr (13, [.int 0, .ref z1, .int (nI z2), .int (nI z3), .int z4, .int z5, .ref z6, .ref z7, .ref z8, .ref z9, .int (nI z10), .ref z11, .ref z12, .ref z13, .ref z14, .ref z15, .int (nI z16), .ref z17, .int z18, .ref z19]))]) [0] rfl
      have hDc := hD.sub (ws' := [(za, .inr (13, [.int 0, .ref z1, .int (nI z2), .int (nI z3), .int z4, .int z5, .ref z6, .ref z7, .ref z8, .ref z9, .int (nI z10), .ref z11, .ref z12, .ref z13, .ref z14, .ref z15, .int (nI z16), .ref z17, .int z18, .ref z19]))]) [0] (by decide) rfl
      have hKc := hK.sub (tys' := []) [] rfl
      have hFc := va_free (wc := [(za, .inr (13, [.int 0, .ref z1, .int (nI z2), .int (nI z3), .int z4, .int z5, .ref z6, .ref z7, .ref z8, .ref z9, .int (nI z10), .ref z11, .ref z12, .ref z13, .ref z14, .ref z15, .int (nI z16), .ref z17, .int z18, .ref z19]))]) hD hS hA [0] rfl
      refine va_calli (va_runV (As := [.int 1]) (rest := []) ⟨hx, hb, hml, hown, hg⟩ (m_refused l D H_2.size za 0 z1 (nI z2) (nI z3) z4 z5 z6 z7 z8 z9 (nI z10) z11 z12 z13 z14 z15 (nI z16) z17 z18 z19 1) (cwV 1 hg (gV wd_725 wd_726 wd_727 wd_717 wd_728) rfl rfl rfl (by decide +kernel) ⟨(Nat.le_trans (Nat.le_of_ble_eq_true rfl) hRf), (Nat.le_trans (Nat.le_of_ble_eq_true rfl) hRl)⟩) ⟨Pr.blind, va_recv hK hP (ci := 13) (q0 := 0) rfl rfl, fun U hU hW => ⟨rfl, Pr.at hPc hKc hDc hN hU hW⟩⟩ rfl rfl hl.1 rfl (lv_room (Nat.le_of_ble_eq_true rfl)) dX13_hidden_27 ⟨(Nat.le_trans (Nat.le_of_ble_eq_true rfl) hRc), (Nat.le_trans (Nat.le_of_ble_eq_true rfl) hRs)⟩) hS (fun q _ h => hFc q h) hFc (fun r_109 M_110 t H_108 locs ht hvm hw hB hz1 hk1 hS => ?_)
      have hp_111 := hw
      obtain ⟨hP1, hK1, hD1⟩ := hB
      rw [ht] at hP1
      obtain ⟨hP, hD⟩ := va_joinQ (X := [(za, .inr (13, [.int 0, .ref z1, .int (nI z2), .int (nI z3), .int z4, .int z5, .ref z6, .ref z7, .ref z8, .ref z9, .int (nI z10), .ref z11, .ref z12, .ref z13, .ref z14, .ref z15, .int (nI z16), .ref z17, .int z18, .ref z19]))]) (cx := [(za, .inr (13, [.int 0, .ref z1, .int (nI z2), .int (nI z3), .int z4, .int z5, .ref z6, .ref z7, .ref z8, .ref z9, .int (nI z10), .ref z11, .ref z12, .ref z13, .ref z14, .ref z15, .int (nI z16), .ref z17, .int z18, .ref z19]))]) (wr := []) (w1 := [(za, .inr (13, [.int 0, .ref z1, .int (nI z2), .int (nI z3), .int 1, .int (-1), .ref z6, .ref z7, .ref z8, .ref z9, .int (nI z10), .ref z11, .ref z12, .ref z13, .ref z14, .ref z15, .int (nI z16), .ref z17, .int z18, .ref z19]))]) (pl := va_pl L M) hP hD [0] [] rfl rfl (by decide) (by decide) hk1 hFc hP1 hD1
      have hP : va_P D vwCl ([(za, .inr (13, [.int 0, .ref z1, .int (nI z2), .int (nI z3), .int 1, .int (-1), .ref z6, .ref z7, .ref z8, .ref z9, .int (nI z10), .ref z11, .ref z12, .ref z13, .ref z14, .ref z15, .int (nI z16), .ref z17, .int z18, .ref z19]))] ++ va_pl L M) H_108 := hP
      have hD : va_D A ([(za, .inr (13, [.int 0, .ref z1, .int (nI z2), .int (nI z3), .int 1, .int (-1), .ref z6, .ref z7, .ref z8, .ref z9, .int (nI z10), .ref z11, .ref z12, .ref z13, .ref z14, .ref z15, .int (nI z16), .ref z17, .int z18, .ref z19]))] ++ va_pl L M) := hD
      have hq := Eq.symm hp_111
      subst hq
      rw [hQ]
      exact W.iret (v := (-1)) hx hb hr (fun t ht hW9 => ⟨⟨(-1), M, rfl, ⟨hW, hF, trivial⟩, ⟨1, (-1), z16, (by omega), by rw [ht]; exact hP, hD⟩⟩, hS.F ht⟩) hS.2.2 dX13_hidden_30
  · have hz := rfl (a := 0)
    refine lv_if_eq (tgt := 25) hx hb dX13_hidden_10 (by decide) (fun _ => ?_) (fun c_112 => absurd c_112 (by decide))
    refine lv_aload_n hx hb dX13_hidden_25 rfl (lv_at hl 0 rfl) ?_
    refine lv_iconst (v := 1) hx hb dX13_hidden_26 (by decide) ?_
    have hPc := hP.sub (ws' := [(za, .inr (13, [.int 0, .ref z1, .int (nI z2), .int (nI z3), .int z4, .int z5, .ref z6, .ref z7, .ref z8, .ref z9, .int (nI z10), .ref z11, .ref z12, .ref z13, .ref z14, .ref z15, .int (nI z16), .ref z17, .int z18, .ref z19]))]) [0] rfl
    have hDc := hD.sub (ws' := [(za, .inr (13, [.int 0, .ref z1, .int (nI z2), .int (nI z3), .int z4, .int z5, .ref z6, .ref z7, .ref z8, .ref z9, .int (nI z10), .ref z11, .ref z12, .ref z13, .ref z14, .ref z15, .int (nI z16), .ref z17, .int z18, .ref z19]))]) [0] (by decide) rfl
    have hKc := hK.sub (tys' := []) [] rfl
    have hFc := va_free (wc := [(za, .inr (13, [.int 0, .ref z1, .int (nI z2), .int (nI z3), .int z4, .int z5, .ref z6, .ref z7, .ref z8, .ref z9, .int (nI z10), .ref z11, .ref z12, .ref z13, .ref z14, .ref z15, .int (nI z16), .ref z17, .int z18, .ref z19]))]) hD hS hA [0] rfl
    refine va_calli (va_runV (As := [.int 1]) (rest := []) ⟨hx, hb, hml, hown, hg⟩ (m_refused l D H_2.size za 0 z1 (nI z2) (nI z3) z4 z5 z6 z7 z8 z9 (nI z10) z11 z12 z13 z14 z15 (nI z16) z17 z18 z19 1) (cwV 1 hg (gV wd_725 wd_726 wd_727 wd_717 wd_728) rfl rfl rfl (by decide +kernel) ⟨(Nat.le_trans (Nat.le_of_ble_eq_true rfl) hRf), (Nat.le_trans (Nat.le_of_ble_eq_true rfl) hRl)⟩) ⟨Pr.blind, va_recv hK hP (ci := 13) (q0 := 0) rfl rfl, fun U hU hW => ⟨rfl, Pr.at hPc hKc hDc hN hU hW⟩⟩ rfl rfl hl.1 rfl (lv_room (Nat.le_of_ble_eq_true rfl)) dX13_hidden_27 ⟨(Nat.le_trans (Nat.le_of_ble_eq_true rfl) hRc), (Nat.le_trans (Nat.le_of_ble_eq_true rfl) hRs)⟩) hS (fun q _ h => hFc q h) hFc (fun r_114 M_115 t H_113 locs ht hvm hw hB hz1 hk1 hS => ?_)
    have hp_116 := hw
    obtain ⟨hP1, hK1, hD1⟩ := hB
    rw [ht] at hP1
    obtain ⟨hP, hD⟩ := va_joinQ (X := [(za, .inr (13, [.int 0, .ref z1, .int (nI z2), .int (nI z3), .int z4, .int z5, .ref z6, .ref z7, .ref z8, .ref z9, .int (nI z10), .ref z11, .ref z12, .ref z13, .ref z14, .ref z15, .int (nI z16), .ref z17, .int z18, .ref z19]))]) (cx := [(za, .inr (13, [.int 0, .ref z1, .int (nI z2), .int (nI z3), .int z4, .int z5, .ref z6, .ref z7, .ref z8, .ref z9, .int (nI z10), .ref z11, .ref z12, .ref z13, .ref z14, .ref z15, .int (nI z16), .ref z17, .int z18, .ref z19]))]) (wr := []) (w1 := [(za, .inr (13, [.int 0, .ref z1, .int (nI z2), .int (nI z3), .int 1, .int (-1), .ref z6, .ref z7, .ref z8, .ref z9, .int (nI z10), .ref z11, .ref z12, .ref z13, .ref z14, .ref z15, .int (nI z16), .ref z17, .int z18, .ref z19]))]) (pl := va_pl L M) hP hD [0] [] rfl rfl (by decide) (by decide) hk1 hFc hP1 hD1
    have hP : va_P D vwCl ([(za, .inr (13, [.int 0, .ref z1, .int (nI z2), .int (nI z3), .int 1, .int (-1), .ref z6, .ref z7, .ref z8, .ref z9, .int (nI z10), .ref z11, .ref z12, .ref z13, .ref z14, .ref z15, .int (nI z16), .ref z17, .int z18, .ref z19]))] ++ va_pl L M) H_113 := hP
    have hD : va_D A ([(za, .inr (13, [.int 0, .ref z1, .int (nI z2), .int (nI z3), .int 1, .int (-1), .ref z6, .ref z7, .ref z8, .ref z9, .int (nI z10), .ref z11, .ref z12, .ref z13, .ref z14, .ref z15, .int (nI z16), .ref z17, .int z18, .ref z19]))] ++ va_pl L M) := hD
    have hq := Eq.symm hp_116
    subst hq
    rw [hQ]
    exact W.iret (v := (-1)) hx hb hr (fun t ht hW9 => ⟨⟨(-1), M, rfl, ⟨hW, hF, trivial⟩, ⟨1, (-1), z16, (by omega), by rw [ht]; exact hP, hD⟩⟩, hS.F ht⟩) hS.2.2 dX13_hidden_30
set_option maxHeartbeats 4000000 in
set_option maxRecDepth 100000 in
theorem r_X13_bear (l : Launch) (D : va_G) (cy : Nat → ClassId) (K : Kp) (L : List Nat) (M : Hp) (sz : Nat) (za : Nat) (z0 : Int32) (z1 : Nat) (z2 : Nat) (z3 : Nat) (z4 : Int32) (z5 : Int32) (z6 : Nat) (z7 : Nat) (z8 : Nat) (z9 : Nat) (z10 : Nat) (z11 : Nat) (z12 : Nat) (z13 : Nat) (z14 : Nat) (z15 : Nat) (z16 : Nat) (z17 : Nat) (z18 : Int32) (z19 : Nat) (k1 : Int32) (k2 : Int32) (k3 : Int32) (hW : WOM cy K L M) (i1 : isk K L z1 23 8) (b2 : z2 ≤ 8) (b3 : z3 ≤ 40) (i6 : isk K L z6 47 40) (i7 : isk K L z7 48 40) (i8 : isk K L z8 49 8) (i9 : isk K L z9 50 8) (b10 : z10 ≤ 8) (i11 : isk K L z11 32 24) (i12 : isk K L z12 14 24) (i13 : isk K L z13 15 24) (i14 : isk K L z14 15 24) (i15 : isk K L z15 15 24) (b16 : z16 ≤ 24) (i17 : isk K L z17 14 24) (i19 : isk K L z19 15 25) (hRL : RLI cy K L M) : Met l yX13_bear (wsM yX13_bear cX13_bear 9 (some .int)) ({ frames := 4, cells := 0, slots := 0, locals := 107 }) (va_Pc [.ref za, .int k1, .int k2, .int k3] (PG D cy [(za, .inr (13, [.int z0, .ref z1, .int (nI z2), .int (nI z3), .int z4, .int z5, .ref z6, .ref z7, .ref z8, .ref z9, .int (nI z10), .ref z11, .ref z12, .ref z13, .ref z14, .ref z15, .int (nI z16), .ref z17, .int z18, .ref z19]))] L M sz)) (va_Qi (fun (r : Int32) (M9 : Hp) => WOM cy K L M9 ∧ fr K L [14, 15, 32] M M9 ∧ (True)) (fun M9 t => ∃ (w4 : Int32) (w5 : Int32) (w16 : Nat) (w18 : Int32), w16 ≤ 24 ∧ PQ D [(za, .inr (13, [.int 0, .ref z1, .int (nI z2), .int (nI z3), .int w4, .int w5, .ref z6, .ref z7, .ref z8, .ref z9, .int (nI z10), .ref z11, .ref z12, .ref z13, .ref z14, .ref z15, .int (nI w16), .ref z17, .int w18, .ref z19]))] L M9 (va_A ([(za, .inr (13, [.int z0, .ref z1, .int (nI z2), .int (nI z3), .int z4, .int z5, .ref z6, .ref z7, .ref z8, .ref z9, .int (nI z10), .ref z11, .ref z12, .ref z13, .ref z14, .ref z15, .int (nI z16), .ref z17, .int z18, .ref z19]))] ++ va_pl L M) sz) t) (va_A ([(za, .inr (13, [.int z0, .ref z1, .int (nI z2), .int (nI z3), .int z4, .int z5, .ref z6, .ref z7, .ref z8, .ref z9, .int (nI z10), .ref z11, .ref z12, .ref z13, .ref z14, .ref z15, .int (nI z16), .ref z17, .int z18, .ref z19]))] ++ va_pl L M) sz)) 0 0 (va_A ([(za, .inr (13, [.int z0, .ref z1, .int (nI z2), .int (nI z3), .int z4, .int z5, .ref z6, .ref z7, .ref z8, .ref z9, .int (nI z10), .ref z11, .ref z12, .ref z13, .ref z14, .ref z15, .int (nI z16), .ref z17, .int z18, .ref z19]))] ++ va_pl L M) sz) := by
  refine Met.ofW (cc := cX13_bear) (maxL := 9) (ret := (some .int)) (by decide) rfl ?_
  intro p e s m args below meth c s₁ B hml hv
  obtain ⟨rfl, hsz, hP, hK, hD0, hN⟩ := hv
  have hx := B.exec
  have hb := B.bytes
  have hr := B.returns
  have hts := atoms_spec (ws := (wsM yX13_bear cX13_bear 9 (some .int))) B.pre
  have hg : ∀ w ∈ lw_good, w.before _ s = true := fun w h => hts w (List.mem_cons_of_mem _ h)
  have hown : s.vm.findClass RX13 = some m.cls := findClass_of_methodNamed B.named
  have hlocks := B.notSynchronized
  subst hsz
  have hD := hD0.self (sz := s.heap.size)
  generalize hAe : va_A ([(za, .inr (13, [.int z0, .ref z1, .int (nI z2), .int (nI z3), .int z4, .int z5, .ref z6, .ref z7, .ref z8, .ref z9, .int (nI z10), .ref z11, .ref z12, .ref z13, .ref z14, .ref z15, .int (nI z16), .ref z17, .int z18, .ref z19]))] ++ va_pl L M) s.heap.size = A at hD ⊢
  have hA : ∀ q : Nat, s.heap.size ≤ q → A q := fun q h => by rw [← hAe]; exact Or.inr h
  have hS : va_S A s.heap s.heap [] := va_S.rf
  have hl := lv_entry ([.ref za, .int k1, .int k2, .int k3]) (n := 9) (Nat.le_of_ble_eq_true rfl)
  rw [lg_entry_eq]
  generalize (lg_sl ([.ref za, .int k1, .int k2, .int k3]) ++ List.replicate (9 - (lg_sl ([.ref za, .int k1, .int k2, .int k3])).length) Slot.unset).toArray = ls at hl ⊢
  refine W.nameQ (fun Q hQ => ?_)
  refine W.nameR (fun R hR => ?_)
  have hRf : 4 ≤ R.frames := by rw [hR]; exact Nat.le_of_ble_eq_true rfl
  have hRl : 107 ≤ R.locals := by rw [hR]; exact Nat.le_of_ble_eq_true rfl
  have hRc : 0 ≤ R.cells := by rw [hR]; exact Nat.le_of_ble_eq_true rfl
  have hRs : 0 ≤ R.slots := by rw [hR]; exact Nat.le_of_ble_eq_true rfl
  have hF : fr K L [14, 15, 32] M M := fr.rf
  have hl : lv_has ls 9 [(0, .ref za), (1, .int k1), (2, .int k2), (3, .int k3)] := hl
  have hW0 := hW
  refine lv_aload_n hx hb dX13_bear_0 rfl (lv_at hl 0 rfl) ?_
  refine lv_iconst (v := 0) hx hb dX13_bear_1 (by decide) ?_
  refine va_put (D := D) (ci := 13) (v := .int 0) (ty := .int) (C := RX13) (T := TX13) (N := 20) hx hb hg inG13 tyX13 tyX13_ok nmX13 hown hK hP hD hS 0 rfl rfl 0 (by decide) (hg _ wd_720) (fun _ h9 => h9) rfl (by decide +kernel) rfl rfl (Nat.le_of_ble_eq_true rfl) dX13_bear_2 (fun H_1 locs hP hD hS => ?_)
  have hP : va_P D vwCl ([(za, .inr (13, [.int 0, .ref z1, .int (nI z2), .int (nI z3), .int z4, .int z5, .ref z6, .ref z7, .ref z8, .ref z9, .int (nI z10), .ref z11, .ref z12, .ref z13, .ref z14, .ref z15, .int (nI z16), .ref z17, .int z18, .ref z19]))] ++ va_pl L M) H_1 := hP
  have hD : va_D A ([(za, .inr (13, [.int 0, .ref z1, .int (nI z2), .int (nI z3), .int z4, .int z5, .ref z6, .ref z7, .ref z8, .ref z9, .int (nI z10), .ref z11, .ref z12, .ref z13, .ref z14, .ref z15, .int (nI z16), .ref z17, .int z18, .ref z19]))] ++ va_pl L M) := hD
  refine lv_aload_n hx hb dX13_bear_5 rfl (lv_at hl 0 rfl) ?_
  refine lv_iload_n hx hb dX13_bear_6 rfl (lv_at hl 1 rfl) ?_
  have hPc : va_P D vwCl ([(za, .inr (13, [.int 0, .ref z1, .int (nI z2), .int (nI z3), .int z4, .int z5, .ref z6, .ref z7, .ref z8, .ref z9, .int (nI z10), .ref z11, .ref z12, .ref z13, .ref z14, .ref z15, .int (nI z16), .ref z17, .int z18, .ref z19]))] ++ va_pl L M) H_1 := hP
  have hDc : va_D A ([(za, .inr (13, [.int 0, .ref z1, .int (nI z2), .int (nI z3), .int z4, .int z5, .ref z6, .ref z7, .ref z8, .ref z9, .int (nI z10), .ref z11, .ref z12, .ref z13, .ref z14, .ref z15, .int (nI z16), .ref z17, .int z18, .ref z19]))] ++ va_pl L M) := hD
  have hFc : ∀ q, va_A ([(za, .inr (13, [.int 0, .ref z1, .int (nI z2), .int (nI z3), .int z4, .int z5, .ref z6, .ref z7, .ref z8, .ref z9, .int (nI z10), .ref z11, .ref z12, .ref z13, .ref z14, .ref z15, .int (nI z16), .ref z17, .int z18, .ref z19]))] ++ va_pl L M) H_1.size q → A q := pg_free hDc hS hA
  refine va_calli (va_runV (As := [.int k1]) (rest := []) ⟨hx, hb, hml, hown, hg⟩ (r_X13_isHouse l D cy K L M H_1.size za 0 z1 z2 z3 z4 z5 z6 z7 z8 z9 z10 z11 z12 z13 z14 z15 z16 z17 z18 z19 k1  hW i1 b2 b3 i6 i7 i8 i9 b10 i11 i12 i13 i14 i15 b16 i17 i19) (cwV 1 hg (gV wd_714 wd_715 wd_716 wd_717 wd_718) rfl rfl rfl (by decide +kernel) ⟨(Nat.le_trans (Nat.le_of_ble_eq_true rfl) hRf), (Nat.le_trans (Nat.le_of_ble_eq_true rfl) hRl)⟩) ⟨PG.blind, va_recv hK hP (ci := 13) (q0 := 0) rfl rfl, fun U hU hW => ⟨rfl, PG.at hPc hK hDc hN hU hW⟩⟩ rfl rfl hl.1 rfl (lv_room (Nat.le_of_ble_eq_true rfl)) dX13_bear_7 ⟨(Nat.le_trans (Nat.le_of_ble_eq_true rfl) hRc), (Nat.le_trans (Nat.le_of_ble_eq_true rfl) hRs)⟩) hS (fun q _ h => hFc q h) hFc (fun r_3 M_4 t H_2 locs ht hvm hw hB hz1 hk1 hS => ?_)
  have hp_5 := hw
  obtain ⟨hP1, hD1⟩ := hB
  rw [ht] at hP1
  have hP : va_P D vwCl ([(za, .inr (13, [.int 0, .ref z1, .int (nI z2), .int (nI z3), .int z4, .int z5, .ref z6, .ref z7, .ref z8, .ref z9, .int (nI z10), .ref z11, .ref z12, .ref z13, .ref z14, .ref z15, .int (nI z16), .ref z17, .int z18, .ref z19]))] ++ va_pl L M) H_2 := hP1
  have hD : va_D A ([(za, .inr (13, [.int 0, .ref z1, .int (nI z2), .int (nI z3), .int z4, .int z5, .ref z6, .ref z7, .ref z8, .ref z9, .int (nI z10), .ref z11, .ref z12, .ref z13, .ref z14, .ref z15, .int (nI z16), .ref z17, .int z18, .ref z19]))] ++ va_pl L M) := hD1.mono hFc
  rcases hp_5 with ⟨rfl, c_6, c_7⟩ | rfl
  · have hz := rfl (a := 0)
    refine lv_if_eq (tgt := 25) hx hb dX13_bear_10 (by decide) (fun c_8 => absurd c_8 (by decide)) (fun _ => ?_)
    refine lv_aload_n hx hb dX13_bear_13 rfl (lv_at hl 0 rfl) ?_
    refine va_get (D := D) (ci := 13) (v := .ref z1) (C := RX13) (T := TX13) (N := 20) hx hb hg inG13 hown hK hP 0 rfl rfl 1 (by decide) (hg _ wd_739) (fun _ h9 => h9) rfl dX13_bear_14 ?_
    refine lv_iload_n hx hb dX13_bear_17 rfl (lv_at hl 1 rfl) ?_
    obtain ⟨f9, hM9, hf9⟩ := hW.open_23 i1
    have hi_10 : vp_in k1 8 := (inbW (a := z2) (by omega) (inb k1 z2 (by omega) c_6 c_7))
    refine pg_aldq hx hb hK hP i1.1 9 hM9 rfl hi_10 dX13_bear_18 ?_
    obtain ⟨b11, eb_12, hb_13⟩ := hf9 _ (vp_lt hi_10)
    rw [eb_12]
    obtain ⟨fs14, hM14, hn14, hl14⟩ := hW.open_12 hb_13
    obtain ⟨v15, hv15, hc15⟩ : ∃ v : Nat, fs14[11]? = some (.int (nI v) : Value) ∧ v ≤ 16 := hl14 11 (by decide)
    refine pg_getN (D := D) (ci := 12) (v := .int (nI v15)) (C := RX12) (T := TX12) (N := 51) hx hb hg inG12 hown hK hP hb_13.1 hM14 rfl 11 (by decide) (hN.use (Cond.fieldLinkNest RX13 142 RX12 "rules" "I" RX13) 20 rfl rfl) (fun _ h9 => h9) hv15 dX13_bear_19 ?_
    refine lv_if_ne (tgt := 31) hx hb dX13_bear_22 (by decide) (fun c_16 => ?_) (fun c_16 => ?_)
    · have hz := rfl (a := 0)
      have n_17 : ¬ (v15 = 0) := fun q => c_16 ((iEQ (a := v15) (b := 0) (by omega) (by omega)).mpr q)
      refine lv_iload_n hx hb dX13_bear_31 rfl (lv_at hl 3 rfl) ?_
      have hPc : va_P D vwCl ([] ++ va_pl L M) H_2 := hP.part (cx := []) [] rfl
      have hDc : va_D A ([] ++ va_pl L M) := hD.part (cx := []) [] (by decide) rfl
      have hFc : ∀ q, va_A ([] ++ va_pl L M) H_2.size q → A q := pg_free hDc hS hA
      refine va_calli (va_runS (As := [.int k3]) (rest := []) ⟨hx, hb, hml, hown, hg⟩ (r_X13_isSum l D cy K L M H_2.size k3  hW ) (va_cwS 1 hg (gS wd_774 wd_775 wd_717 wd_776) rfl rfl rfl (by decide +kernel) ⟨(Nat.le_trans (Nat.le_of_ble_eq_true rfl) hRf), (Nat.le_trans (Nat.le_of_ble_eq_true rfl) hRl)⟩) ⟨PG.blind, fun U hU hW => ⟨rfl, PG.at hPc hK hDc hN hU hW⟩⟩ rfl rfl hl.1 rfl (lv_room (Nat.le_of_ble_eq_true rfl)) dX13_bear_32 ⟨(Nat.le_trans (Nat.le_of_ble_eq_true rfl) hRc), (Nat.le_trans (Nat.le_of_ble_eq_true rfl) hRs)⟩) hS (fun q _ h => hFc q h) hFc (fun r_19 M_20 t H_18 locs ht hvm hw hB hz1 hk1 hS => ?_)
      have hp_21 := hw
      obtain ⟨hP1, hD1⟩ := hB
      rw [ht] at hP1
      obtain ⟨hP, hD⟩ := va_joinP (X := [(za, .inr (13, [.int 0, .ref z1, .int (nI z2), .int (nI z3), .int z4, .int z5, .ref z6, .ref z7, .ref z8, .ref z9, .int (nI z10), .ref z11, .ref z12, .ref z13, .ref z14, .ref z15, .int (nI z16), .ref z17, .int z18, .ref z19]))]) (cx := []) (wr := [(za, .inr (13, [.int 0, .ref z1, .int (nI z2), .int (nI z3), .int z4, .int z5, .ref z6, .ref z7, .ref z8, .ref z9, .int (nI z10), .ref z11, .ref z12, .ref z13, .ref z14, .ref z15, .int (nI z16), .ref z17, .int z18, .ref z19]))]) (rx := []) (pl := va_pl L M) (pl1 := va_pl L M) hP hD [] [0] rfl rfl (by decide) (by decide) hk1 hFc hP1 hD1
      have hP : va_P D vwCl ([(za, .inr (13, [.int 0, .ref z1, .int (nI z2), .int (nI z3), .int z4, .int z5, .ref z6, .ref z7, .ref z8, .ref z9, .int (nI z10), .ref z11, .ref z12, .ref z13, .ref z14, .ref z15, .int (nI z16), .ref z17, .int z18, .ref z19]))] ++ va_pl L M) H_18 := hP
      have hD : va_D A ([(za, .inr (13, [.int 0, .ref z1, .int (nI z2), .int (nI z3), .int z4, .int z5, .ref z6, .ref z7, .ref z8, .ref z9, .int (nI z10), .ref z11, .ref z12, .ref z13, .ref z14, .ref z15, .int (nI z16), .ref z17, .int z18, .ref z19]))] ++ va_pl L M) := hD
      rcases hp_21 with rfl | rfl
      · have hz := rfl (a := 0)
        refine lv_if_ne (tgt := 44) hx hb dX13_bear_35 (by decide) (fun _ => ?_) (fun c_22 => absurd c_22 (by decide))
        refine lv_aload_n hx hb dX13_bear_44 rfl (lv_at hl 0 rfl) ?_
        refine va_get (D := D) (ci := 13) (v := .ref z1) (C := RX13) (T := TX13) (N := 20) hx hb hg inG13 hown hK hP 0 rfl rfl 1 (by decide) (hg _ wd_739) (fun _ h9 => h9) rfl dX13_bear_45 ?_
        refine lv_iload_n hx hb dX13_bear_48 rfl (lv_at hl 1 rfl) ?_
        have hi_23 : vp_in k1 8 := (inbW (a := z2) (by omega) (inb k1 z2 (by omega) c_6 c_7))
        refine pg_aldq hx hb hK hP i1.1 9 hM9 rfl hi_23 dX13_bear_49 ?_
        rw [show f9 (k1 : Int32).toNatClampNeg = some b11 from eb_12]
        refine lv_astore (lv' := [(4, .ref b11), (0, .ref za), (1, .int k1), (2, .int k2), (3, .int k3)]) hx hb dX13_bear_50 hl (by decide) rfl (fun ls hl => ?_)
        refine lv_iload_n hx hb dX13_bear_52 rfl (lv_at hl 3 rfl) ?_
        refine lv_aload hx hb dX13_bear_53 (lv_at hl 0 rfl) ?_
        obtain ⟨v24, hv24, hc24⟩ : ∃ v : Nat, fs14[0]? = some (.int (nI v) : Value) ∧ v ≤ 999 := hl14 0 (by decide)
        refine pg_getN (D := D) (ci := 12) (v := .int (nI v24)) (C := RX12) (T := TX12) (N := 51) hx hb hg inG12 hown hK hP hb_13.1 hM14 rfl 0 (by decide) (hN.use (Cond.fieldLinkNest RX13 77 RX12 "first" "I" RX13) 9 rfl rfl) (fun _ h9 => h9) hv24 dX13_bear_55 ?_
        refine lv_icmp_lt (tgt := 68) hx hb dX13_bear_58 (by decide) (fun c_25 => ?_) (fun c_25 => ?_)
        · have hz := rfl (a := 0)
          have n_26 : ¬ 999 ≤ k2 := ltB (b := 999) (by decide) hc24 c_25
          refine lv_aload_n hx hb dX13_bear_68 rfl (lv_at hl 1 rfl) ?_
          refine lv_iconst (v := 3) hx hb dX13_bear_69 (by decide) ?_
          have hPc := hP.sub (ws' := [(za, .inr (13, [.int 0, .ref z1, .int (nI z2), .int (nI z3), .int z4, .int z5, .ref z6, .ref z7, .ref z8, .ref z9, .int (nI z10), .ref z11, .ref z12, .ref z13, .ref z14, .ref z15, .int (nI z16), .ref z17, .int z18, .ref z19]))]) [0] rfl
          have hDc := hD.sub (ws' := [(za, .inr (13, [.int 0, .ref z1, .int (nI z2), .int (nI z3), .int z4, .int z5, .ref z6, .ref z7, .ref z8, .ref z9, .int (nI z10), .ref z11, .ref z12, .ref z13, .ref z14, .ref z15, .int (nI z16), .ref z17, .int z18, .ref z19]))]) [0] (by decide) rfl
          have hKc := hK.sub (tys' := []) [] rfl
          have hFc := va_free (wc := [(za, .inr (13, [.int 0, .ref z1, .int (nI z2), .int (nI z3), .int z4, .int z5, .ref z6, .ref z7, .ref z8, .ref z9, .int (nI z10), .ref z11, .ref z12, .ref z13, .ref z14, .ref z15, .int (nI z16), .ref z17, .int z18, .ref z19]))]) hD hS hA [0] rfl
          refine va_calli (va_runV (As := [.int 3]) (rest := []) ⟨hx, hb, hml, hown, hg⟩ (m_refused l D H_18.size za 0 z1 (nI z2) (nI z3) z4 z5 z6 z7 z8 z9 (nI z10) z11 z12 z13 z14 z15 (nI z16) z17 z18 z19 3) (cwV 1 hg (gV wd_725 wd_726 wd_727 wd_717 wd_728) rfl rfl rfl (by decide +kernel) ⟨(Nat.le_trans (Nat.le_of_ble_eq_true rfl) hRf), (Nat.le_trans (Nat.le_of_ble_eq_true rfl) hRl)⟩) ⟨Pr.blind, va_recv hK hP (ci := 13) (q0 := 0) rfl rfl, fun U hU hW => ⟨rfl, Pr.at hPc hKc hDc hN hU hW⟩⟩ rfl rfl hl.1 rfl (lv_room (Nat.le_of_ble_eq_true rfl)) dX13_bear_70 ⟨(Nat.le_trans (Nat.le_of_ble_eq_true rfl) hRc), (Nat.le_trans (Nat.le_of_ble_eq_true rfl) hRs)⟩) hS (fun q _ h => hFc q h) hFc (fun r_28 M_29 t H_27 locs ht hvm hw hB hz1 hk1 hS => ?_)
          have hp_30 := hw
          obtain ⟨hP1, hK1, hD1⟩ := hB
          rw [ht] at hP1
          obtain ⟨hP, hD⟩ := va_joinQ (X := [(za, .inr (13, [.int 0, .ref z1, .int (nI z2), .int (nI z3), .int z4, .int z5, .ref z6, .ref z7, .ref z8, .ref z9, .int (nI z10), .ref z11, .ref z12, .ref z13, .ref z14, .ref z15, .int (nI z16), .ref z17, .int z18, .ref z19]))]) (cx := [(za, .inr (13, [.int 0, .ref z1, .int (nI z2), .int (nI z3), .int z4, .int z5, .ref z6, .ref z7, .ref z8, .ref z9, .int (nI z10), .ref z11, .ref z12, .ref z13, .ref z14, .ref z15, .int (nI z16), .ref z17, .int z18, .ref z19]))]) (wr := []) (w1 := [(za, .inr (13, [.int 0, .ref z1, .int (nI z2), .int (nI z3), .int 3, .int (-1), .ref z6, .ref z7, .ref z8, .ref z9, .int (nI z10), .ref z11, .ref z12, .ref z13, .ref z14, .ref z15, .int (nI z16), .ref z17, .int z18, .ref z19]))]) (pl := va_pl L M) hP hD [0] [] rfl rfl (by decide) (by decide) hk1 hFc hP1 hD1
          have hP : va_P D vwCl ([(za, .inr (13, [.int 0, .ref z1, .int (nI z2), .int (nI z3), .int 3, .int (-1), .ref z6, .ref z7, .ref z8, .ref z9, .int (nI z10), .ref z11, .ref z12, .ref z13, .ref z14, .ref z15, .int (nI z16), .ref z17, .int z18, .ref z19]))] ++ va_pl L M) H_27 := hP
          have hD : va_D A ([(za, .inr (13, [.int 0, .ref z1, .int (nI z2), .int (nI z3), .int 3, .int (-1), .ref z6, .ref z7, .ref z8, .ref z9, .int (nI z10), .ref z11, .ref z12, .ref z13, .ref z14, .ref z15, .int (nI z16), .ref z17, .int z18, .ref z19]))] ++ va_pl L M) := hD
          have hq := Eq.symm hp_30
          subst hq
          rw [hQ]
          exact W.iret (v := (-1)) hx hb hr (fun t ht hW9 => ⟨⟨(-1), M, rfl, ⟨hW, hF, trivial⟩, ⟨3, (-1), z16, z18, (by omega), by rw [ht]; exact hP, hD⟩⟩, hS.F ht⟩) hS.2.2 dX13_bear_73
        · have hz := rfl (a := 0)
          refine lv_iload_n hx hb dX13_bear_61 rfl (lv_at hl 3 rfl) ?_
          refine lv_sipush (v := 1000) hx hb dX13_bear_62 (by decide) ?_
          refine lv_icmp_lt (tgt := 74) hx hb dX13_bear_65 (by decide) (fun c_31 => ?_) (fun c_31 => ?_)
          · have hz := rfl (a := 0)
            refine lv_aload_n hx hb dX13_bear_74 rfl (lv_at hl 1 rfl) ?_
            refine lv_iconst (v := 0) hx hb dX13_bear_75 (by decide) ?_
            refine va_put (D := D) (ci := 13) (v := .int 0) (ty := .int) (C := RX13) (T := TX13) (N := 20) hx hb hg inG13 tyX13 tyX13_ok nmX13 hown hK hP hD hS 0 rfl rfl 16 (by decide) (hg _ wd_769) (fun _ h9 => h9) rfl (by decide +kernel) rfl rfl (Nat.le_of_ble_eq_true rfl) dX13_bear_76 (fun H_32 locs hP hD hS => ?_)
            have hP : va_P D vwCl ([(za, .inr (13, [.int 0, .ref z1, .int (nI z2), .int (nI z3), .int z4, .int z5, .ref z6, .ref z7, .ref z8, .ref z9, .int (nI z10), .ref z11, .ref z12, .ref z13, .ref z14, .ref z15, .int 0, .ref z17, .int z18, .ref z19]))] ++ va_pl L M) H_32 := hP
            have hD : va_D A ([(za, .inr (13, [.int 0, .ref z1, .int (nI z2), .int (nI z3), .int z4, .int z5, .ref z6, .ref z7, .ref z8, .ref z9, .int (nI z10), .ref z11, .ref z12, .ref z13, .ref z14, .ref z15, .int 0, .ref z17, .int z18, .ref z19]))] ++ va_pl L M) := hD
            refine lv_iconst (v := 0) hx hb dX13_bear_79 (by decide) ?_
            refine lv_istore (lv' := [(5, .int 0), (4, .ref b11), (0, .ref za), (1, .int k1), (2, .int k2), (3, .int k3)]) hx hb dX13_bear_80 hl (by decide) rfl (fun ls hl => ?_)
            have key_33 : ∀ (fu_35 : Nat) (v5w36 : Nat) (zgw36 : Nat) (M_39 : Hp) (H_40 : Heap) (locs : List Loc) (ls : Array Slot), 24 - v5w36 < fu_35 → M_39 b11 = .inr (12, fs14) → v5w36 ≤ 24 → zgw36 ≤ v5w36 → WOM cy K L M_39 → fr K L [14, 15, 32] M M_39 → va_P D vwCl ([(za, .inr (13, [.int 0, .ref z1, .int (nI z2), .int (nI z3), .int z4, .int z5, .ref z6, .ref z7, .ref z8, .ref z9, .int (nI z10), .ref z11, .ref z12, .ref z13, .ref z14, .ref z15, .int (nI zgw36), .ref z17, .int z18, .ref z19]))] ++ va_pl L M_39) H_40 → va_D A ([(za, .inr (13, [.int 0, .ref z1, .int (nI z2), .int (nI z3), .int z4, .int z5, .ref z6, .ref z7, .ref z8, .ref z9, .int (nI z10), .ref z11, .ref z12, .ref z13, .ref z14, .ref z15, .int (nI zgw36), .ref z17, .int z18, .ref z19]))] ++ va_pl L M_39) → va_S A s.heap H_40 locs → lv_has ls 9 [(5, .int (nI v5w36)), (4, .ref b11), (0, .ref za), (1, .int k1), (2, .int k2), (3, .int k3)] → W p l e R s m ([.ref za, .int k1, .int k2, .int k3] : List Value).toArray below meth c H_40 locs 0 0 Q (F0 m 82 ls []) := by
              intro fu_35
              induction fu_35 with
              | zero => intro v5w36 zgw36 M_39 H_40 locs ls h; exact absurd h (Nat.not_lt_zero _)
              | succ fu_35 ih_34 =>
                intro v5w36 zgw36 M_39 H_40 locs ls hfu hM_41 hx_37 hx_38 hW hF hP hD hS hl
                refine lv_iload hx hb dX13_bear_82 (lv_at hl 0 rfl) ?_
                refine lv_aload hx hb dX13_bear_84 (lv_at hl 1 rfl) ?_
                obtain ⟨v42, hv42, hc42⟩ : ∃ v : Nat, fs14[10]? = some (.int (nI v) : Value) ∧ v ≤ 24 := hl14 10 (by decide)
                refine pg_getN (D := D) (ci := 12) (v := .int (nI v42)) (C := RX12) (T := TX12) (N := 51) hx hb hg inG12 hown hK hP hb_13.1 hM_41 rfl 10 (by decide) (hN.use (Cond.fieldLinkNest RX13 68 RX12 "tenures" "I" RX13) 19 rfl rfl) (fun _ h9 => h9) hv42 dX13_bear_86 ?_
                refine lv_icmp_ge (tgt := 282) hx hb dX13_bear_89 (by decide) (fun c_43 => ?_) (fun c_43 => ?_)
                · have hz := rfl (a := 0)
                  have n_44 : v42 ≤ v5w36 := (iLE (a := v42) (b := v5w36) (by omega) (by omega)).mp c_43
                  refine lv_aload_n hx hb dX13_bear_282 rfl (lv_at hl 2 rfl) ?_
                  refine lv_aload hx hb dX13_bear_283 (lv_at hl 1 rfl) ?_
                  refine lv_iload_n hx hb dX13_bear_285 rfl (lv_at hl 5 rfl) ?_
                  refine lv_i2l hx hb dX13_bear_286 rfl ?_
                  refine lv_topl (fun f_45 ef_45 => ?_)
                  have hPc : va_P D vwCl ([(za, .inr (13, [.int 0, .ref z1, .int (nI z2), .int (nI z3), .int z4, .int z5, .ref z6, .ref z7, .ref z8, .ref z9, .int (nI z10), .ref z11, .ref z12, .ref z13, .ref z14, .ref z15, .int (nI zgw36), .ref z17, .int z18, .ref z19]))] ++ va_pl L M_39) H_40 := hP
                  have hDc : va_D A ([(za, .inr (13, [.int 0, .ref z1, .int (nI z2), .int (nI z3), .int z4, .int z5, .ref z6, .ref z7, .ref z8, .ref z9, .int (nI z10), .ref z11, .ref z12, .ref z13, .ref z14, .ref z15, .int (nI zgw36), .ref z17, .int z18, .ref z19]))] ++ va_pl L M_39) := hD
                  have hFc : ∀ q, va_A ([(za, .inr (13, [.int 0, .ref z1, .int (nI z2), .int (nI z3), .int z4, .int z5, .ref z6, .ref z7, .ref z8, .ref z9, .int (nI z10), .ref z11, .ref z12, .ref z13, .ref z14, .ref z15, .int (nI zgw36), .ref z17, .int z18, .ref z19]))] ++ va_pl L M_39) H_40.size q → A q := pg_free hDc hS hA
                  refine va_calll (va_runV (As := [.ref b11, .long f_45]) (rest := []) ⟨hx, hb, hml, hown, hg⟩ (r_X13_bearing l D cy K L M_39 H_40.size za 0 z1 z2 z3 z4 z5 z6 z7 z8 z9 z10 z11 z12 z13 z14 z15 zgw36 z17 z18 z19 b11 f_45  hW i1 b2 b3 i6 i7 i8 i9 b10 i11 i12 i13 i14 i15 (by omega) i17 i19 hb_13) (cwV 2 hg (gV wd_799 wd_800 wd_801 wd_717 wd_802) rfl rfl rfl (by decide +kernel) ⟨(Nat.le_trans (Nat.le_of_ble_eq_true rfl) hRf), (Nat.le_trans (Nat.le_of_ble_eq_true rfl) hRl)⟩) ⟨PG.blind, va_recv hK hP (ci := 13) (q0 := 0) rfl rfl, fun U hU hW => ⟨rfl, PG.at hPc hK hDc hN hU hW⟩⟩ rfl rfl hl.1 rfl (lv_room (Nat.le_of_ble_eq_true rfl)) dX13_bear_287 ⟨(Nat.le_trans (Nat.le_of_ble_eq_true rfl) hRc), (Nat.le_trans (Nat.le_of_ble_eq_true rfl) hRs)⟩) hS (fun q _ h => hFc q h) hFc (fun r_47 M_48 t H_46 locs ht hvm hw hB hz1 hk1 hS => ?_)
                  obtain ⟨hW, hF2, hp_49⟩ := hw
                  obtain ⟨hP1, hD1⟩ := hB
                  rw [ht] at hP1
                  have hP : va_P D vwCl ([(za, .inr (13, [.int 0, .ref z1, .int (nI z2), .int (nI z3), .int z4, .int z5, .ref z6, .ref z7, .ref z8, .ref z9, .int (nI z10), .ref z11, .ref z12, .ref z13, .ref z14, .ref z15, .int (nI zgw36), .ref z17, .int z18, .ref z19]))] ++ va_pl L M_48) H_46 := hP1
                  have hD : va_D A ([(za, .inr (13, [.int 0, .ref z1, .int (nI z2), .int (nI z3), .int z4, .int z5, .ref z6, .ref z7, .ref z8, .ref z9, .int (nI z10), .ref z11, .ref z12, .ref z13, .ref z14, .ref z15, .int (nI zgw36), .ref z17, .int z18, .ref z19]))] ++ va_pl L M_48) := hD1.mono hFc
                  have hM_50 : M_48 b11 = .inr (12, fs14) := (hF2.at hb_13 (by decide)).trans hM_41
                  have hF : fr K L [14, 15, 32] M M_48 := hF.tr hF2 (by decide)
                  refine lv_lstore (lv' := [(5, .long r_47), (4, .ref b11), (0, .ref za), (1, .int k1), (2, .int k2), (3, .int k3)]) hx hb dX13_bear_290 hl (by decide) rfl (fun ls hl => ?_)
                  refine lv_iconst (v := 0) hx hb dX13_bear_292 (by decide) ?_
                  refine lv_istore (lv' := [(7, .int 0), (5, .long r_47), (4, .ref b11), (0, .ref za), (1, .int k1), (2, .int k2), (3, .int k3)]) hx hb dX13_bear_293 hl (by decide) rfl (fun ls hl => ?_)
                  have key_51 : ∀ (fu_53 : Nat) (v7w54 : Nat) (M_56 : Hp) (H_57 : Heap) (locs : List Loc) (ls : Array Slot), 24 - v7w54 < fu_53 → v7w54 ≤ 24 → WOM cy K L M_56 → fr K L [14, 15, 32] M M_56 → va_P D vwCl ([(za, .inr (13, [.int 0, .ref z1, .int (nI z2), .int (nI z3), .int z4, .int z5, .ref z6, .ref z7, .ref z8, .ref z9, .int (nI z10), .ref z11, .ref z12, .ref z13, .ref z14, .ref z15, .int (nI zgw36), .ref z17, .int z18, .ref z19]))] ++ va_pl L M_56) H_57 → va_D A ([(za, .inr (13, [.int 0, .ref z1, .int (nI z2), .int (nI z3), .int z4, .int z5, .ref z6, .ref z7, .ref z8, .ref z9, .int (nI z10), .ref z11, .ref z12, .ref z13, .ref z14, .ref z15, .int (nI zgw36), .ref z17, .int z18, .ref z19]))] ++ va_pl L M_56) → va_S A s.heap H_57 locs → lv_has ls 9 [(7, .int (nI v7w54)), (5, .long r_47), (4, .ref b11), (0, .ref za), (1, .int k1), (2, .int k2), (3, .int k3)] → W p l e R s m ([.ref za, .int k1, .int k2, .int k3] : List Value).toArray below meth c H_57 locs 0 0 Q (F0 m 295 ls []) := by
                    intro fu_53
                    induction fu_53 with
                    | zero => intro v7w54 M_56 H_57 locs ls h; exact absurd h (Nat.not_lt_zero _)
                    | succ fu_53 ih_52 =>
                      intro v7w54 M_56 H_57 locs ls hfu hx_55 hW hF hP hD hS hl
                      refine lv_iload hx hb dX13_bear_295 (lv_at hl 0 rfl) ?_
                      refine lv_bipush (v := 24) hx hb dX13_bear_297 (by decide) ?_
                      refine lv_icmp_ge (tgt := 316) hx hb dX13_bear_299 (by decide) (fun c_58 => ?_) (fun c_58 => ?_)
                      · have hz := rfl (a := 0)
                        have n_59 : 24 ≤ v7w54 := (iLE (a := 24) (b := v7w54) (by omega) (by omega)).mp c_58
                        refine lv_iconst (v := 0) hx hb dX13_bear_316 (by decide) ?_
                        refine lv_istore (lv' := [(7, .int 0), (5, .long r_47), (4, .ref b11), (0, .ref za), (1, .int k1), (2, .int k2), (3, .int k3)]) hx hb dX13_bear_317 hl (by decide) rfl (fun ls hl => ?_)
                        refine lv_iconst (v := 0) hx hb dX13_bear_319 (by decide) ?_
                        refine lv_istore (lv' := [(8, .int 0), (7, .int 0), (5, .long r_47), (4, .ref b11), (0, .ref za), (1, .int k1), (2, .int k2), (3, .int k3)]) hx hb dX13_bear_320 hl (by decide) rfl (fun ls hl => ?_)
                        have key_60 : ∀ (fu_62 : Nat) (v7w63 : Int32) (v8w63 : Nat) (M_65 : Hp) (H_66 : Heap) (locs : List Loc) (ls : Array Slot), 24 - v8w63 < fu_62 → v8w63 ≤ 24 → WOM cy K L M_65 → fr K L [14, 15, 32] M M_65 → va_P D vwCl ([(za, .inr (13, [.int 0, .ref z1, .int (nI z2), .int (nI z3), .int z4, .int z5, .ref z6, .ref z7, .ref z8, .ref z9, .int (nI z10), .ref z11, .ref z12, .ref z13, .ref z14, .ref z15, .int (nI zgw36), .ref z17, .int z18, .ref z19]))] ++ va_pl L M_65) H_66 → va_D A ([(za, .inr (13, [.int 0, .ref z1, .int (nI z2), .int (nI z3), .int z4, .int z5, .ref z6, .ref z7, .ref z8, .ref z9, .int (nI z10), .ref z11, .ref z12, .ref z13, .ref z14, .ref z15, .int (nI zgw36), .ref z17, .int z18, .ref z19]))] ++ va_pl L M_65) → va_S A s.heap H_66 locs → lv_has ls 9 [(8, .int (nI v8w63)), (7, .int v7w63), (5, .long r_47), (4, .ref b11), (0, .ref za), (1, .int k1), (2, .int k2), (3, .int k3)] → W p l e R s m ([.ref za, .int k1, .int k2, .int k3] : List Value).toArray below meth c H_66 locs 0 0 Q (F0 m 322 ls []) := by
                          intro fu_62
                          induction fu_62 with
                          | zero => intro v7w63 v8w63 M_65 H_66 locs ls h; exact absurd h (Nat.not_lt_zero _)
                          | succ fu_62 ih_61 =>
                            intro v7w63 v8w63 M_65 H_66 locs ls hfu hx_64 hW hF hP hD hS hl
                            refine lv_iload hx hb dX13_bear_322 (lv_at hl 0 rfl) ?_
                            refine lv_aload_n hx hb dX13_bear_324 rfl (lv_at hl 4 rfl) ?_
                            refine va_get (D := D) (ci := 13) (v := .int (nI zgw36)) (C := RX13) (T := TX13) (N := 20) hx hb hg inG13 hown hK hP 0 rfl rfl 16 (by decide) (hg _ wd_769) (fun _ h9 => h9) rfl dX13_bear_325 ?_
                            refine lv_icmp_ge (tgt := 379) hx hb dX13_bear_328 (by decide) (fun c_67 => ?_) (fun c_67 => ?_)
                            · have hz := rfl (a := 0)
                              have n_68 : zgw36 ≤ v8w63 := (iLE (a := zgw36) (b := v8w63) (by omega) (by omega)).mp c_67
                              refine lv_aload_n hx hb dX13_bear_379 rfl (lv_at hl 4 rfl) ?_
                              refine lv_lload hx hb dX13_bear_380 (lv_at hl 2 rfl) ?_
                              refine lv_l2i hx hb dX13_bear_382 rfl ?_
                              refine lv_topi (fun f_69 ef_69 => ?_)
                              refine va_put (D := D) (ci := 13) (v := .int f_69) (ty := .int) (C := RX13) (T := TX13) (N := 20) hx hb hg inG13 tyX13 tyX13_ok nmX13 hown hK hP hD hS 0 rfl rfl 18 (by decide) (hg _ wd_722) (fun _ h9 => h9) rfl (by decide +kernel) rfl rfl (Nat.le_of_ble_eq_true rfl) dX13_bear_383 (fun H_70 locs hP hD hS => ?_)
                              have hP : va_P D vwCl ([(za, .inr (13, [.int 0, .ref z1, .int (nI z2), .int (nI z3), .int z4, .int z5, .ref z6, .ref z7, .ref z8, .ref z9, .int (nI z10), .ref z11, .ref z12, .ref z13, .ref z14, .ref z15, .int (nI zgw36), .ref z17, .int f_69, .ref z19]))] ++ va_pl L M_65) H_70 := hP
                              have hD : va_D A ([(za, .inr (13, [.int 0, .ref z1, .int (nI z2), .int (nI z3), .int z4, .int z5, .ref z6, .ref z7, .ref z8, .ref z9, .int (nI z10), .ref z11, .ref z12, .ref z13, .ref z14, .ref z15, .int (nI zgw36), .ref z17, .int f_69, .ref z19]))] ++ va_pl L M_65) := hD
                              refine lv_aload_n hx hb dX13_bear_386 rfl (lv_at hl 4 rfl) ?_
                              refine lv_iload hx hb dX13_bear_387 (lv_at hl 1 rfl) ?_
                              have hPc := hP.sub (ws' := [(za, .inr (13, [.int 0, .ref z1, .int (nI z2), .int (nI z3), .int z4, .int z5, .ref z6, .ref z7, .ref z8, .ref z9, .int (nI z10), .ref z11, .ref z12, .ref z13, .ref z14, .ref z15, .int (nI zgw36), .ref z17, .int f_69, .ref z19]))]) [0] rfl
                              have hDc := hD.sub (ws' := [(za, .inr (13, [.int 0, .ref z1, .int (nI z2), .int (nI z3), .int z4, .int z5, .ref z6, .ref z7, .ref z8, .ref z9, .int (nI z10), .ref z11, .ref z12, .ref z13, .ref z14, .ref z15, .int (nI zgw36), .ref z17, .int f_69, .ref z19]))]) [0] (by decide) rfl
                              have hKc := hK.sub (tys' := []) [] rfl
                              have hFc := va_free (wc := [(za, .inr (13, [.int 0, .ref z1, .int (nI z2), .int (nI z3), .int z4, .int z5, .ref z6, .ref z7, .ref z8, .ref z9, .int (nI z10), .ref z11, .ref z12, .ref z13, .ref z14, .ref z15, .int (nI zgw36), .ref z17, .int f_69, .ref z19]))]) hD hS hA [0] rfl
                              refine va_calli (va_runV (As := [.int v7w63]) (rest := []) ⟨hx, hb, hml, hown, hg⟩ (m_done l D H_70.size za 0 z1 (nI z2) (nI z3) z4 z5 z6 z7 z8 z9 (nI z10) z11 z12 z13 z14 z15 (nI zgw36) z17 f_69 z19 v7w63) (cwV 1 hg (gV wd_730 wd_731 wd_732 wd_717 wd_733) rfl rfl rfl (by decide +kernel) ⟨(Nat.le_trans (Nat.le_of_ble_eq_true rfl) hRf), (Nat.le_trans (Nat.le_of_ble_eq_true rfl) hRl)⟩) ⟨Pr.blind, va_recv hK hP (ci := 13) (q0 := 0) rfl rfl, fun U hU hW => ⟨rfl, Pr.at hPc hKc hDc hN hU hW⟩⟩ rfl rfl hl.1 rfl (lv_room (Nat.le_of_ble_eq_true rfl)) dX13_bear_389 ⟨(Nat.le_trans (Nat.le_of_ble_eq_true rfl) hRc), (Nat.le_trans (Nat.le_of_ble_eq_true rfl) hRs)⟩) hS (fun q _ h => hFc q h) hFc (fun r_72 M_73 t H_71 locs ht hvm hw hB hz1 hk1 hS => ?_)
                              have hp_74 := hw
                              obtain ⟨hP1, hK1, hD1⟩ := hB
                              rw [ht] at hP1
                              obtain ⟨hP, hD⟩ := va_joinQ (X := [(za, .inr (13, [.int 0, .ref z1, .int (nI z2), .int (nI z3), .int z4, .int z5, .ref z6, .ref z7, .ref z8, .ref z9, .int (nI z10), .ref z11, .ref z12, .ref z13, .ref z14, .ref z15, .int (nI zgw36), .ref z17, .int f_69, .ref z19]))]) (cx := [(za, .inr (13, [.int 0, .ref z1, .int (nI z2), .int (nI z3), .int z4, .int z5, .ref z6, .ref z7, .ref z8, .ref z9, .int (nI z10), .ref z11, .ref z12, .ref z13, .ref z14, .ref z15, .int (nI zgw36), .ref z17, .int f_69, .ref z19]))]) (wr := []) (w1 := [(za, .inr (13, [.int 0, .ref z1, .int (nI z2), .int (nI z3), .int 0, .int (-1), .ref z6, .ref z7, .ref z8, .ref z9, .int (nI z10), .ref z11, .ref z12, .ref z13, .ref z14, .ref z15, .int (nI zgw36), .ref z17, .int f_69, .ref z19]))]) (pl := va_pl L M_65) hP hD [0] [] rfl rfl (by decide) (by decide) hk1 hFc hP1 hD1
                              have hP : va_P D vwCl ([(za, .inr (13, [.int 0, .ref z1, .int (nI z2), .int (nI z3), .int 0, .int (-1), .ref z6, .ref z7, .ref z8, .ref z9, .int (nI z10), .ref z11, .ref z12, .ref z13, .ref z14, .ref z15, .int (nI zgw36), .ref z17, .int f_69, .ref z19]))] ++ va_pl L M_65) H_71 := hP
                              have hD : va_D A ([(za, .inr (13, [.int 0, .ref z1, .int (nI z2), .int (nI z3), .int 0, .int (-1), .ref z6, .ref z7, .ref z8, .ref z9, .int (nI z10), .ref z11, .ref z12, .ref z13, .ref z14, .ref z15, .int (nI zgw36), .ref z17, .int f_69, .ref z19]))] ++ va_pl L M_65) := hD
                              have hq := Eq.symm hp_74
                              subst hq
                              rw [hQ]
                              exact W.iret (v := v7w63) hx hb hr (fun t ht hW9 => ⟨⟨v7w63, M_65, rfl, ⟨hW, hF, trivial⟩, ⟨0, (-1), zgw36, f_69, (by omega), by rw [ht]; exact hP, hD⟩⟩, hS.F ht⟩) hS.2.2 dX13_bear_392
                            · have hz := rfl (a := 0)
                              have n_75 : ¬ (zgw36 ≤ v8w63) := fun q => c_67 ((iLE (a := zgw36) (b := v8w63) (by omega) (by omega)).mpr q)
                              refine lv_aload_n hx hb dX13_bear_331 rfl (lv_at hl 4 rfl) ?_
                              refine va_get (D := D) (ci := 13) (v := .ref z17) (C := RX13) (T := TX13) (N := 20) hx hb hg inG13 hown hK hP 0 rfl rfl 17 (by decide) (hg _ wd_721) (fun _ h9 => h9) rfl dX13_bear_332 ?_
                              refine lv_aload_n hx hb dX13_bear_335 rfl (lv_at hl 4 rfl) ?_
                              refine va_get (D := D) (ci := 13) (v := .ref z11) (C := RX13) (T := TX13) (N := 20) hx hb hg inG13 hown hK hP 0 rfl rfl 11 (by decide) (hg _ wd_764) (fun _ h9 => h9) rfl dX13_bear_336 ?_
                              refine lv_iload hx hb dX13_bear_339 (lv_at hl 0 rfl) ?_
                              obtain ⟨f76, hM76, hf76⟩ := hW.open_32 i11
                              have hi_77 : vp_in (nI v8w63) 24 := (inbN v8w63 24 (by omega) (by omega))
                              refine pg_iald hx hb hK hP i11.1 0 hM76 rfl hi_77 dX13_bear_341 ?_
                              have hp_78 := hf76 _ (vp_lt hi_77)
                              obtain ⟨c_79, hc_80, ec_81⟩ := hp_78
                              rw [ec_81]
                              refine lv_aload_n hx hb dX13_bear_342 rfl (lv_at hl 4 rfl) ?_
                              refine va_get (D := D) (ci := 13) (v := .ref z13) (C := RX13) (T := TX13) (N := 20) hx hb hg inG13 hown hK hP 0 rfl rfl 13 (by decide) (hg _ wd_789) (fun _ h9 => h9) rfl dX13_bear_343 ?_
                              refine lv_iload hx hb dX13_bear_346 (lv_at hl 0 rfl) ?_
                              obtain ⟨f82, hM82⟩ := hW.open_15 i13
                              refine pg_lald hx hb hK hP i13.1 1 hM82 rfl (inbN v8w63 24 (by omega) (by omega)) dX13_bear_348 ?_
                              refine lv_topl (fun f_83 ef_83 => ?_)
                              refine lv_l2i hx hb dX13_bear_349 rfl ?_
                              refine lv_topi (fun f_84 ef_84 => ?_)
                              obtain ⟨f85, hM85⟩ := hW.open_14 i17
                              refine pg_iast hx hb hK hP hD hS i17.1 0 hM85 rfl (inbN c_79 24 (by omega) (by omega)) dX13_bear_350 (fun H_86 locs hP hD hS => ?_)
                              obtain ⟨M_87, eM_87⟩ : ∃ M1 : Hp, M1 = va_up M_65 z17 (.inl (cy 14, 24, .inl (upd f85 ((nI c_79) : Int32).toNatClampNeg f_84))) := ⟨_, rfl⟩
                              have hP : va_P D vwCl ([(za, .inr (13, [.int 0, .ref z1, .int (nI z2), .int (nI z3), .int z4, .int z5, .ref z6, .ref z7, .ref z8, .ref z9, .int (nI z10), .ref z11, .ref z12, .ref z13, .ref z14, .ref z15, .int (nI zgw36), .ref z17, .int z18, .ref z19]))] ++ va_pl L M_87) H_86 := by rw [eM_87]; exact hP
                              have hD : va_D A ([(za, .inr (13, [.int 0, .ref z1, .int (nI z2), .int (nI z3), .int z4, .int z5, .ref z6, .ref z7, .ref z8, .ref z9, .int (nI z10), .ref z11, .ref z12, .ref z13, .ref z14, .ref z15, .int (nI zgw36), .ref z17, .int z18, .ref z19]))] ++ va_pl L M_87) := by rw [eM_87]; exact hD
                              have hW : WOM cy K L M_87 := by rw [eM_87]; exact hW.up_14 i17 ⟨_, rfl⟩
                              have hF : fr K L [14, 15, 32] M M_87 := by rw [eM_87]; exact hF.up i17 (by decide)
                              have hM_88 : M_87 z17 = .inl (cy 14, 24, .inl (upd f85 ((nI c_79) : Int32).toNatClampNeg f_84)) := by rw [eM_87]; exact va_up_self _ _ _
                              have hM_89 : M_87 z11 = .inl (cy 14, 24, .inl (f76)) := by rw [eM_87, va_up_ne _ _ (i11.neT i17 (by decide))]; exact hM76
                              have hM_90 : M_87 z13 = .inl (cy 15, 24, .inr (.inl (f82))) := by rw [eM_87, va_up_ne _ _ (i13.neT i17 (by decide))]; exact hM82
                              obtain ⟨f_91, ef_91⟩ : ∃ f : Nat → Int32, f = upd f85 ((nI c_79) : Int32).toNatClampNeg f_84 := ⟨_, rfl⟩
                              rw [← ef_91] at hM_88
                              clear ef_91
                              refine lv_iload hx hb dX13_bear_351 (lv_at hl 1 rfl) ?_
                              refine lv_aload_n hx hb dX13_bear_353 rfl (lv_at hl 4 rfl) ?_
                              refine va_get (D := D) (ci := 13) (v := .ref z13) (C := RX13) (T := TX13) (N := 20) hx hb hg inG13 hown hK hP 0 rfl rfl 13 (by decide) (hg _ wd_789) (fun _ h9 => h9) rfl dX13_bear_354 ?_
                              refine lv_iload hx hb dX13_bear_357 (lv_at hl 0 rfl) ?_
                              refine pg_lald hx hb hK hP i13.1 1 hM_90 rfl (inbN v8w63 24 (by omega) (by omega)) dX13_bear_359 ?_
                              refine lv_topl (fun f_92 ef_92 => ?_)
                              refine lv_lconst (v := 0) hx hb dX13_bear_360 (by decide) ?_
                              refine W.lcmp hx hb dX13_bear_361 ?_
                              refine lv_if_le (tgt := 369) hx hb dX13_bear_362 (by decide) (fun c_93 => ?_) (fun c_93 => ?_)
                              · have hz := rfl (a := 0)
                                have d_94 : f_92 ≤ 0 := lc_let c_93
                                refine lv_iconst (v := 0) hx hb dX13_bear_369 (by decide) ?_
                                refine lv_iadd hx hb dX13_bear_370 ?_
                                refine lv_topi (fun f_95 ef_95 => ?_)
                                refine lv_istore (lv' := [(7, .int f_95), (8, .int (nI v8w63)), (5, .long r_47), (4, .ref b11), (0, .ref za), (1, .int k1), (2, .int k2), (3, .int k3)]) hx hb dX13_bear_371 hl (by decide) rfl (fun ls hl => ?_)
                                refine lv_iinc (v := (nI (v8w63 + 1))) (lv' := [(8, .int (nI (v8w63 + 1))), (7, .int f_95), (5, .long r_47), (4, .ref b11), (0, .ref za), (1, .int k1), (2, .int k2), (3, .int k3)]) hx hb dX13_bear_373 hl (k := 1) rfl (nI_1 v8w63) (by decide) rfl (fun ls hl => ?_)
                                refine lv_goto (tgt := 322) hx hb dX13_bear_376 (by decide) ?_
                                exact ih_61 f_95 (v8w63 + 1) M_87 H_86 _ _ (by omega) (by omega) hW hF hP hD hS (lv_sub hl [0, 1, 2, 3, 4, 5, 6, 7] rfl)
                              · have hz := rfl (a := 0)
                                have d_94 : ¬ f_92 ≤ 0 := lc_lef c_93
                                refine lv_iconst (v := 1) hx hb dX13_bear_365 (by decide) ?_
                                refine lv_goto (tgt := 370) hx hb dX13_bear_366 (by decide) ?_
                                refine lv_iadd hx hb dX13_bear_370 ?_
                                refine lv_topi (fun f_96 ef_96 => ?_)
                                refine lv_istore (lv' := [(7, .int f_96), (8, .int (nI v8w63)), (5, .long r_47), (4, .ref b11), (0, .ref za), (1, .int k1), (2, .int k2), (3, .int k3)]) hx hb dX13_bear_371 hl (by decide) rfl (fun ls hl => ?_)
                                refine lv_iinc (v := (nI (v8w63 + 1))) (lv' := [(8, .int (nI (v8w63 + 1))), (7, .int f_96), (5, .long r_47), (4, .ref b11), (0, .ref za), (1, .int k1), (2, .int k2), (3, .int k3)]) hx hb dX13_bear_373 hl (k := 1) rfl (nI_1 v8w63) (by decide) rfl (fun ls hl => ?_)
                                refine lv_goto (tgt := 322) hx hb dX13_bear_376 (by decide) ?_
                                exact ih_61 f_96 (v8w63 + 1) M_87 H_86 _ _ (by omega) (by omega) hW hF hP hD hS (lv_sub hl [0, 1, 2, 3, 4, 5, 6, 7] rfl)
                        exact key_60 (24 - 0 + 1) 0 0 M_56 H_57 _ _ (by omega) (by omega) hW hF hP hD hS (lv_sub hl [0, 1, 2, 3, 4, 5, 6, 7] rfl)
                      · have hz := rfl (a := 0)
                        have n_97 : ¬ (24 ≤ v7w54) := fun q => c_58 ((iLE (a := 24) (b := v7w54) (by omega) (by omega)).mpr q)
                        refine lv_aload_n hx hb dX13_bear_302 rfl (lv_at hl 3 rfl) ?_
                        refine va_get (D := D) (ci := 13) (v := .ref z17) (C := RX13) (T := TX13) (N := 20) hx hb hg inG13 hown hK hP 0 rfl rfl 17 (by decide) (hg _ wd_721) (fun _ h9 => h9) rfl dX13_bear_303 ?_
                        refine lv_iload hx hb dX13_bear_306 (lv_at hl 0 rfl) ?_
                        refine lv_iconst (v := 0) hx hb dX13_bear_308 (by decide) ?_
                        obtain ⟨f98, hM98⟩ := hW.open_14 i17
                        refine pg_iast hx hb hK hP hD hS i17.1 0 hM98 rfl (inbN v7w54 24 (by omega) (by omega)) dX13_bear_309 (fun H_99 locs hP hD hS => ?_)
                        obtain ⟨M_100, eM_100⟩ : ∃ M1 : Hp, M1 = va_up M_56 z17 (.inl (cy 14, 24, .inl (upd f98 ((nI v7w54) : Int32).toNatClampNeg 0))) := ⟨_, rfl⟩
                        have hP : va_P D vwCl ([(za, .inr (13, [.int 0, .ref z1, .int (nI z2), .int (nI z3), .int z4, .int z5, .ref z6, .ref z7, .ref z8, .ref z9, .int (nI z10), .ref z11, .ref z12, .ref z13, .ref z14, .ref z15, .int (nI zgw36), .ref z17, .int z18, .ref z19]))] ++ va_pl L M_100) H_99 := by rw [eM_100]; exact hP
                        have hD : va_D A ([(za, .inr (13, [.int 0, .ref z1, .int (nI z2), .int (nI z3), .int z4, .int z5, .ref z6, .ref z7, .ref z8, .ref z9, .int (nI z10), .ref z11, .ref z12, .ref z13, .ref z14, .ref z15, .int (nI zgw36), .ref z17, .int z18, .ref z19]))] ++ va_pl L M_100) := by rw [eM_100]; exact hD
                        have hW : WOM cy K L M_100 := by rw [eM_100]; exact hW.up_14 i17 ⟨_, rfl⟩
                        have hF : fr K L [14, 15, 32] M M_100 := by rw [eM_100]; exact hF.up i17 (by decide)
                        have hM_101 : M_100 z17 = .inl (cy 14, 24, .inl (upd f98 ((nI v7w54) : Int32).toNatClampNeg 0)) := by rw [eM_100]; exact va_up_self _ _ _
                        obtain ⟨f_102, ef_102⟩ : ∃ f : Nat → Int32, f = upd f98 ((nI v7w54) : Int32).toNatClampNeg 0 := ⟨_, rfl⟩
                        rw [← ef_102] at hM_101
                        clear ef_102
                        refine lv_iinc (v := (nI (v7w54 + 1))) (lv' := [(7, .int (nI (v7w54 + 1))), (5, .long r_47), (4, .ref b11), (0, .ref za), (1, .int k1), (2, .int k2), (3, .int k3)]) hx hb dX13_bear_310 hl (k := 0) rfl (nI_1 v7w54) (by decide) rfl (fun ls hl => ?_)
                        refine lv_goto (tgt := 295) hx hb dX13_bear_313 (by decide) ?_
                        exact ih_52 (v7w54 + 1) M_100 H_99 _ _ (by omega) (by omega) hW hF hP hD hS (lv_sub hl [0, 1, 2, 3, 4, 5, 6] rfl)
                  exact key_51 (24 - 0 + 1) 0 M_48 H_46 _ _ (by omega) (by omega) hW hF hP hD hS (lv_sub hl [0, 1, 2, 3, 4, 5, 6] rfl)
                · have hz := rfl (a := 0)
                  have n_103 : ¬ (v42 ≤ v5w36) := fun q => c_43 ((iLE (a := v42) (b := v5w36) (by omega) (by omega)).mpr q)
                  refine lv_aload hx hb dX13_bear_92 (lv_at hl 1 rfl) ?_
                  refine lv_iload hx hb dX13_bear_94 (lv_at hl 0 rfl) ?_
                  refine lv_iload_n hx hb dX13_bear_96 rfl (lv_at hl 4 rfl) ?_
                  have hPc : va_P D vwCl ([] ++ va_pl L M_39) H_40 := hP.part (cx := []) [] rfl
                  have hDc : va_D A ([] ++ va_pl L M_39) := hD.part (cx := []) [] (by decide) rfl
                  have hFc : ∀ q, va_A ([] ++ va_pl L M_39) H_40.size q → A q := pg_free hDc hS hA
                  refine va_calli (va_runV (As := [.int (nI v5w36), .int k2]) (rest := []) ⟨hx, hb, hml, hown, hg⟩ (r_X12_isIn l D cy K L M_39 H_40.size b11 v5w36 k2  hW hb_13 (by omega)) (cwV 2 hg (gV wd_748 wd_749 wd_750 wd_737 wd_751) rfl rfl rfl (by decide +kernel) ⟨(Nat.le_trans (Nat.le_of_ble_eq_true rfl) hRf), (Nat.le_trans (Nat.le_of_ble_eq_true rfl) hRl)⟩) ⟨PG.blind, pg_recv hK hP hb_13.1 hM_41 rfl, fun U hU hW => ⟨rfl, PG.at hPc hK hDc hN hU hW⟩⟩ rfl rfl hl.1 rfl (lv_room (Nat.le_of_ble_eq_true rfl)) dX13_bear_97 ⟨(Nat.le_trans (Nat.le_of_ble_eq_true rfl) hRc), (Nat.le_trans (Nat.le_of_ble_eq_true rfl) hRs)⟩) hS (fun q _ h => hFc q h) hFc (fun r_105 M_106 t H_104 locs ht hvm hw hB hz1 hk1 hS => ?_)
                  have hp_107 := hw
                  obtain ⟨hP1, hD1⟩ := hB
                  rw [ht] at hP1
                  obtain ⟨hP, hD⟩ := va_joinP (X := [(za, .inr (13, [.int 0, .ref z1, .int (nI z2), .int (nI z3), .int z4, .int z5, .ref z6, .ref z7, .ref z8, .ref z9, .int (nI z10), .ref z11, .ref z12, .ref z13, .ref z14, .ref z15, .int (nI zgw36), .ref z17, .int z18, .ref z19]))]) (cx := []) (wr := [(za, .inr (13, [.int 0, .ref z1, .int (nI z2), .int (nI z3), .int z4, .int z5, .ref z6, .ref z7, .ref z8, .ref z9, .int (nI z10), .ref z11, .ref z12, .ref z13, .ref z14, .ref z15, .int (nI zgw36), .ref z17, .int z18, .ref z19]))]) (rx := []) (pl := va_pl L M_39) (pl1 := va_pl L M_39) hP hD [] [0] rfl rfl (by decide) (by decide) hk1 hFc hP1 hD1
                  have hP : va_P D vwCl ([(za, .inr (13, [.int 0, .ref z1, .int (nI z2), .int (nI z3), .int z4, .int z5, .ref z6, .ref z7, .ref z8, .ref z9, .int (nI z10), .ref z11, .ref z12, .ref z13, .ref z14, .ref z15, .int (nI zgw36), .ref z17, .int z18, .ref z19]))] ++ va_pl L M_39) H_104 := hP
                  have hD : va_D A ([(za, .inr (13, [.int 0, .ref z1, .int (nI z2), .int (nI z3), .int z4, .int z5, .ref z6, .ref z7, .ref z8, .ref z9, .int (nI z10), .ref z11, .ref z12, .ref z13, .ref z14, .ref z15, .int (nI zgw36), .ref z17, .int z18, .ref z19]))] ++ va_pl L M_39) := hD
                  rcases hp_107 with rfl | rfl
                  · have hz := rfl (a := 0)
                    refine lv_if_eq (tgt := 143) hx hb dX13_bear_100 (by decide) (fun c_108 => absurd c_108 (by decide)) (fun _ => ?_)
                    refine lv_aload hx hb dX13_bear_103 (lv_at hl 1 rfl) ?_
                    obtain ⟨v109, hv109, hc109⟩ : ∃ v : Nat, fs14[22]? = some (.ref v : Value) ∧ isk K L v 41 24 := hl14 22 (by decide)
                    refine pg_getN (D := D) (ci := 12) (v := .ref v109) (C := RX12) (T := TX12) (N := 51) hx hb hg inG12 hown hK hP hb_13.1 hM_41 rfl 22 (by decide) (hN.use (Cond.fieldLinkNest RX13 95 RX12 "ended" "[I" RX13) 31 rfl rfl) (fun _ h9 => h9) hv109 dX13_bear_105 ?_
                    refine lv_iload hx hb dX13_bear_108 (lv_at hl 0 rfl) ?_
                    obtain ⟨f110, hM110⟩ := hW.open_41 hc109
                    refine pg_iald hx hb hK hP hc109.1 0 hM110 rfl (inbN v5w36 24 (by omega) (by omega)) dX13_bear_110 ?_
                    refine lv_topi (fun f_111 ef_111 => ?_)
                    refine lv_iconst (v := (-1)) hx hb dX13_bear_111 (by decide) ?_
                    refine lv_icmp_eq (tgt := 139) hx hb dX13_bear_112 (by decide) (fun c_112 => ?_) (fun c_112 => ?_)
                    · have hz := rfl (a := 0)
                      refine lv_iconst (v := 1) hx hb dX13_bear_139 (by decide) ?_
                      refine lv_goto (tgt := 144) hx hb dX13_bear_140 (by decide) ?_
                      refine lv_istore (lv' := [(6, .int 1), (5, .int (nI v5w36)), (4, .ref b11), (0, .ref za), (1, .int k1), (2, .int k2), (3, .int k3)]) hx hb dX13_bear_144 hl (by decide) rfl (fun ls hl => ?_)
                      refine lv_aload hx hb dX13_bear_146 (lv_at hl 2 rfl) ?_
                      obtain ⟨v113, hv113, hc113⟩ : ∃ v : Nat, fs14[21]? = some (.ref v : Value) ∧ isk K L v 75 24 := hl14 21 (by decide)
                      refine pg_getN (D := D) (ci := 12) (v := .ref v113) (C := RX12) (T := TX12) (N := 51) hx hb hg inG12 hown hK hP hb_13.1 hM_41 rfl 21 (by decide) (hN.use (Cond.fieldLinkNest RX13 112 RX12 "begin" "[I" RX13) 30 rfl rfl) (fun _ h9 => h9) hv113 dX13_bear_148 ?_
                      refine lv_iload hx hb dX13_bear_151 (lv_at hl 1 rfl) ?_
                      obtain ⟨f114, hM114⟩ := hW.open_75 hc113
                      refine pg_iald hx hb hK hP hc113.1 0 hM114 rfl (inbN v5w36 24 (by omega) (by omega)) dX13_bear_153 ?_
                      refine lv_topi (fun f_115 ef_115 => ?_)
                      refine lv_iload_n hx hb dX13_bear_154 rfl (lv_at hl 5 rfl) ?_
                      refine lv_icmp_le (tgt := 185) hx hb dX13_bear_155 (by decide) (fun c_116 => ?_) (fun c_116 => ?_)
                      · have hz := rfl (a := 0)
                        refine lv_iconst (v := 0) hx hb dX13_bear_185 (by decide) ?_
                        refine lv_istore (lv' := [(7, .int 0), (6, .int 1), (5, .int (nI v5w36)), (4, .ref b11), (0, .ref za), (1, .int k1), (2, .int k2), (3, .int k3)]) hx hb dX13_bear_186 hl (by decide) rfl (fun ls hl => ?_)
                        refine lv_iload hx hb dX13_bear_188 (lv_at hl 1 rfl) ?_
                        refine lv_if_ne (tgt := 201) hx hb dX13_bear_190 (by decide) (fun _ => ?_) (fun c_117 => absurd c_117 (by decide))
                        refine lv_aload_n hx hb dX13_bear_201 rfl (lv_at hl 4 rfl) ?_
                        refine va_get (D := D) (ci := 13) (v := .ref z11) (C := RX13) (T := TX13) (N := 20) hx hb hg inG13 hown hK hP 0 rfl rfl 11 (by decide) (hg _ wd_764) (fun _ h9 => h9) rfl dX13_bear_202 ?_
                        refine lv_aload_n hx hb dX13_bear_205 rfl (lv_at hl 4 rfl) ?_
                        refine va_get (D := D) (ci := 13) (v := .int (nI zgw36)) (C := RX13) (T := TX13) (N := 20) hx hb hg inG13 hown hK hP 0 rfl rfl 16 (by decide) (hg _ wd_769) (fun _ h9 => h9) rfl dX13_bear_206 ?_
                        refine lv_iload hx hb dX13_bear_209 (lv_at hl 2 rfl) ?_
                        obtain ⟨f118, hM118, hf118⟩ := hW.open_32 i11
                        refine pg_iast hx hb hK hP hD hS i11.1 0 hM118 rfl (inbN zgw36 24 (by omega) (by omega)) dX13_bear_211 (fun H_119 locs hP hD hS => ?_)
                        obtain ⟨M_120, eM_120⟩ : ∃ M1 : Hp, M1 = va_up M_39 z11 (.inl (cy 14, 24, .inl (upd f118 ((nI zgw36) : Int32).toNatClampNeg (nI v5w36)))) := ⟨_, rfl⟩
                        have hP : va_P D vwCl ([(za, .inr (13, [.int 0, .ref z1, .int (nI z2), .int (nI z3), .int z4, .int z5, .ref z6, .ref z7, .ref z8, .ref z9, .int (nI z10), .ref z11, .ref z12, .ref z13, .ref z14, .ref z15, .int (nI zgw36), .ref z17, .int z18, .ref z19]))] ++ va_pl L M_120) H_119 := by rw [eM_120]; exact hP
                        have hD : va_D A ([(za, .inr (13, [.int 0, .ref z1, .int (nI z2), .int (nI z3), .int z4, .int z5, .ref z6, .ref z7, .ref z8, .ref z9, .int (nI z10), .ref z11, .ref z12, .ref z13, .ref z14, .ref z15, .int (nI zgw36), .ref z17, .int z18, .ref z19]))] ++ va_pl L M_120) := by rw [eM_120]; exact hD
                        have hW : WOM cy K L M_120 := by rw [eM_120]; exact hW.up_32 i11 ⟨_, rfl, (updP (P := fun z => ∃ c : Nat, c < 24 ∧ z = nI c) hf118 ⟨v5w36, by omega, rfl⟩)⟩
                        have hF : fr K L [14, 15, 32] M M_120 := by rw [eM_120]; exact hF.up i11 (by decide)
                        have hM_121 : M_120 z11 = .inl (cy 14, 24, .inl (upd f118 ((nI zgw36) : Int32).toNatClampNeg (nI v5w36))) := by rw [eM_120]; exact va_up_self _ _ _
                        have hM_122 : M_120 b11 = .inr (12, fs14) := by rw [eM_120, va_up_ne _ _ (hb_13.neT i11 (by decide))]; exact hM_41
                        have hM_123 : M_120 v109 = .inl (cy 14, 24, .inl (f110)) := by rw [eM_120, va_up_ne _ _ (hc109.neT i11 (by decide))]; exact hM110
                        have hM_124 : M_120 v113 = .inl (cy 14, 24, .inl (f114)) := by rw [eM_120, va_up_ne _ _ (hc113.neT i11 (by decide))]; exact hM114
                        have hf_126 : ∀ j, j < 24 → ∃ c : Nat, c < 24 ∧ (upd f118 ((nI zgw36) : Int32).toNatClampNeg (nI v5w36)) j = nI c := (updP (P := fun z => ∃ c : Nat, c < 24 ∧ z = nI c) hf118 ⟨v5w36, by omega, rfl⟩)
                        obtain ⟨f_125, ef_125⟩ : ∃ f : Nat → Int32, f = upd f118 ((nI zgw36) : Int32).toNatClampNeg (nI v5w36) := ⟨_, rfl⟩
                        rw [← ef_125] at hM_121 hf_126
                        clear ef_125
                        refine lv_aload_n hx hb dX13_bear_212 rfl (lv_at hl 4 rfl) ?_
                        refine va_get (D := D) (ci := 13) (v := .ref z12) (C := RX13) (T := TX13) (N := 20) hx hb hg inG13 hown hK hP 0 rfl rfl 12 (by decide) (hg _ wd_763) (fun _ h9 => h9) rfl dX13_bear_213 ?_
                        refine lv_aload_n hx hb dX13_bear_216 rfl (lv_at hl 4 rfl) ?_
                        refine va_get (D := D) (ci := 13) (v := .int (nI zgw36)) (C := RX13) (T := TX13) (N := 20) hx hb hg inG13 hown hK hP 0 rfl rfl 16 (by decide) (hg _ wd_769) (fun _ h9 => h9) rfl dX13_bear_217 ?_
                        refine lv_aload hx hb dX13_bear_220 (lv_at hl 3 rfl) ?_
                        refine lv_iload hx hb dX13_bear_222 (lv_at hl 1 rfl) ?_
                        refine lv_if_eq (tgt := 236) hx hb dX13_bear_224 (by decide) (fun c_127 => absurd c_127 (by decide)) (fun _ => ?_)
                        refine lv_aload hx hb dX13_bear_227 (lv_at hl 3 rfl) ?_
                        refine lv_iload_n hx hb dX13_bear_229 rfl (lv_at hl 6 rfl) ?_
                        have hPc : va_P D vwCl ([] ++ va_pl L M_120) H_119 := hP.part (cx := []) [] rfl
                        have hDc : va_D A ([] ++ va_pl L M_120) := hD.part (cx := []) [] (by decide) rfl
                        have hFc : ∀ q, va_A ([] ++ va_pl L M_120) H_119.size q → A q := pg_free hDc hS hA
                        refine va_calli (va_runV (As := [.int k2]) (rest := [.ref b11, .int (nI zgw36), .ref z12]) ⟨hx, hb, hml, hown, hg⟩ (r_ruleOnP l D cy K L M_120 H_119.size b11 k2  hW hb_13 (RLD.of hW (RLI.fr hW0 hRL hF (by decide) (by decide)) hb_13 hM_122 hv15 (by omega) hc15 hv24 (Int32.not_lt.mp c_25))) (cwV 1 hg (gV wd_815 wd_816 wd_817 wd_737 wd_818) rfl rfl rfl (by decide +kernel) ⟨(Nat.le_trans (Nat.le_of_ble_eq_true rfl) hRf), (Nat.le_trans (Nat.le_of_ble_eq_true rfl) hRl)⟩) ⟨PG.blind, pg_recv hK hP hb_13.1 hM_122 rfl, fun U hU hW => ⟨rfl, PG.at hPc hK hDc hN hU hW⟩⟩ rfl rfl hl.1 rfl (lv_room (Nat.le_of_ble_eq_true rfl)) dX13_bear_230 ⟨(Nat.le_trans (Nat.le_of_ble_eq_true rfl) hRc), (Nat.le_trans (Nat.le_of_ble_eq_true rfl) hRs)⟩) hS (fun q _ h => hFc q h) hFc (fun r_129 M_130 t H_128 locs ht hvm hw hB hz1 hk1 hS => ?_)
                        have hp_131 := hw
                        obtain ⟨hP1, hD1⟩ := hB
                        rw [ht] at hP1
                        obtain ⟨hP, hD⟩ := va_joinP (X := [(za, .inr (13, [.int 0, .ref z1, .int (nI z2), .int (nI z3), .int z4, .int z5, .ref z6, .ref z7, .ref z8, .ref z9, .int (nI z10), .ref z11, .ref z12, .ref z13, .ref z14, .ref z15, .int (nI zgw36), .ref z17, .int z18, .ref z19]))]) (cx := []) (wr := [(za, .inr (13, [.int 0, .ref z1, .int (nI z2), .int (nI z3), .int z4, .int z5, .ref z6, .ref z7, .ref z8, .ref z9, .int (nI z10), .ref z11, .ref z12, .ref z13, .ref z14, .ref z15, .int (nI zgw36), .ref z17, .int z18, .ref z19]))]) (rx := []) (pl := va_pl L M_120) (pl1 := va_pl L M_120) hP hD [] [0] rfl rfl (by decide) (by decide) hk1 hFc hP1 hD1
                        have hP : va_P D vwCl ([(za, .inr (13, [.int 0, .ref z1, .int (nI z2), .int (nI z3), .int z4, .int z5, .ref z6, .ref z7, .ref z8, .ref z9, .int (nI z10), .ref z11, .ref z12, .ref z13, .ref z14, .ref z15, .int (nI zgw36), .ref z17, .int z18, .ref z19]))] ++ va_pl L M_120) H_128 := hP
                        have hD : va_D A ([(za, .inr (13, [.int 0, .ref z1, .int (nI z2), .int (nI z3), .int z4, .int z5, .ref z6, .ref z7, .ref z8, .ref z9, .int (nI z10), .ref z11, .ref z12, .ref z13, .ref z14, .ref z15, .int (nI zgw36), .ref z17, .int z18, .ref z19]))] ++ va_pl L M_120) := hD
                        obtain ⟨j_132, rfl, c_133⟩ := hp_131
                        refine lv_goto (tgt := 243) hx hb dX13_bear_233 (by decide) ?_
                        refine lv_iconst (v := 3) hx hb dX13_bear_243 (by decide) ?_
                        refine lv_aload hx hb dX13_bear_244 (lv_at hl 3 rfl) ?_
                        obtain ⟨v134, hv134, hc134⟩ : ∃ v : Nat, fs14[20]? = some (.ref v : Value) ∧ isk K L v 31 24 := hl14 20 (by decide)
                        refine pg_getN (D := D) (ci := 12) (v := .ref v134) (C := RX12) (T := TX12) (N := 51) hx hb hg inG12 hown hK hP hb_13.1 hM_122 rfl 20 (by decide) (hN.use (Cond.fieldLinkNest RX13 110 RX12 "where" "[I" RX13) 29 rfl rfl) (fun _ h9 => h9) hv134 dX13_bear_246 ?_
                        refine lv_iload hx hb dX13_bear_249 (lv_at hl 2 rfl) ?_
                        obtain ⟨f135, hM135, hf135⟩ := hW.open_31 hc134
                        have hi_136 : vp_in (nI v5w36) 24 := (inbN v5w36 24 (by omega) (by omega))
                        refine pg_iald hx hb hK hP hc134.1 0 hM135 rfl hi_136 dX13_bear_251 ?_
                        have hp_137 := hf135 _ (vp_lt hi_136)
                        obtain ⟨c_138, hc_139, ec_140⟩ := hp_137
                        rw [ec_140]
                        have hPc : va_P D vwCl ([] ++ va_pl L M_120) H_128 := hP.part (cx := []) [] rfl
                        have hDc : va_D A ([] ++ va_pl L M_120) := hD.part (cx := []) [] (by decide) rfl
                        have hFc : ∀ q, va_A ([] ++ va_pl L M_120) H_128.size q → A q := pg_free hDc hS hA
                        refine va_calli (va_runV (As := [.int (nI j_132), .int 3, .int (nI c_138)]) (rest := [.int (nI zgw36), .ref z12]) ⟨hx, hb, hml, hown, hg⟩ (r_X12_term l D cy K L M_120 H_128.size b11 j_132 3 c_138  hW hb_13 c_133 (by omega) hc_139) (cwV 3 hg (gV wd_770 wd_771 wd_772 wd_737 wd_773) rfl rfl rfl (by decide +kernel) ⟨(Nat.le_trans (Nat.le_of_ble_eq_true rfl) hRf), (Nat.le_trans (Nat.le_of_ble_eq_true rfl) hRl)⟩) ⟨PG.blind, pg_recv hK hP hb_13.1 hM_122 rfl, fun U hU hW => ⟨rfl, PG.at hPc hK hDc hN hU hW⟩⟩ rfl rfl hl.1 rfl (lv_room (Nat.le_of_ble_eq_true rfl)) dX13_bear_252 ⟨(Nat.le_trans (Nat.le_of_ble_eq_true rfl) hRc), (Nat.le_trans (Nat.le_of_ble_eq_true rfl) hRs)⟩) hS (fun q _ h => hFc q h) hFc (fun r_142 M_143 t H_141 locs ht hvm hw hB hz1 hk1 hS => ?_)
                        have hp_144 := hw
                        obtain ⟨hP1, hD1⟩ := hB
                        rw [ht] at hP1
                        obtain ⟨hP, hD⟩ := va_joinP (X := [(za, .inr (13, [.int 0, .ref z1, .int (nI z2), .int (nI z3), .int z4, .int z5, .ref z6, .ref z7, .ref z8, .ref z9, .int (nI z10), .ref z11, .ref z12, .ref z13, .ref z14, .ref z15, .int (nI zgw36), .ref z17, .int z18, .ref z19]))]) (cx := []) (wr := [(za, .inr (13, [.int 0, .ref z1, .int (nI z2), .int (nI z3), .int z4, .int z5, .ref z6, .ref z7, .ref z8, .ref z9, .int (nI z10), .ref z11, .ref z12, .ref z13, .ref z14, .ref z15, .int (nI zgw36), .ref z17, .int z18, .ref z19]))]) (rx := []) (pl := va_pl L M_120) (pl1 := va_pl L M_120) hP hD [] [0] rfl rfl (by decide) (by decide) hk1 hFc hP1 hD1
                        have hP : va_P D vwCl ([(za, .inr (13, [.int 0, .ref z1, .int (nI z2), .int (nI z3), .int z4, .int z5, .ref z6, .ref z7, .ref z8, .ref z9, .int (nI z10), .ref z11, .ref z12, .ref z13, .ref z14, .ref z15, .int (nI zgw36), .ref z17, .int z18, .ref z19]))] ++ va_pl L M_120) H_141 := hP
                        have hD : va_D A ([(za, .inr (13, [.int 0, .ref z1, .int (nI z2), .int (nI z3), .int z4, .int z5, .ref z6, .ref z7, .ref z8, .ref z9, .int (nI z10), .ref z11, .ref z12, .ref z13, .ref z14, .ref z15, .int (nI zgw36), .ref z17, .int z18, .ref z19]))] ++ va_pl L M_120) := hD
                        obtain ⟨f145, hM145⟩ := hW.open_14 i12
                        refine pg_iast hx hb hK hP hD hS i12.1 0 hM145 rfl (inbN zgw36 24 (by omega) (by omega)) dX13_bear_255 (fun H_146 locs hP hD hS => ?_)
                        obtain ⟨M_147, eM_147⟩ : ∃ M1 : Hp, M1 = va_up M_120 z12 (.inl (cy 14, 24, .inl (upd f145 ((nI zgw36) : Int32).toNatClampNeg r_142))) := ⟨_, rfl⟩
                        have hP : va_P D vwCl ([(za, .inr (13, [.int 0, .ref z1, .int (nI z2), .int (nI z3), .int z4, .int z5, .ref z6, .ref z7, .ref z8, .ref z9, .int (nI z10), .ref z11, .ref z12, .ref z13, .ref z14, .ref z15, .int (nI zgw36), .ref z17, .int z18, .ref z19]))] ++ va_pl L M_147) H_146 := by rw [eM_147]; exact hP
                        have hD : va_D A ([(za, .inr (13, [.int 0, .ref z1, .int (nI z2), .int (nI z3), .int z4, .int z5, .ref z6, .ref z7, .ref z8, .ref z9, .int (nI z10), .ref z11, .ref z12, .ref z13, .ref z14, .ref z15, .int (nI zgw36), .ref z17, .int z18, .ref z19]))] ++ va_pl L M_147) := by rw [eM_147]; exact hD
                        have hW : WOM cy K L M_147 := by rw [eM_147]; exact hW.up_14 i12 ⟨_, rfl⟩
                        have hF : fr K L [14, 15, 32] M M_147 := by rw [eM_147]; exact hF.up i12 (by decide)
                        have hM_148 : M_147 z12 = .inl (cy 14, 24, .inl (upd f145 ((nI zgw36) : Int32).toNatClampNeg r_142)) := by rw [eM_147]; exact va_up_self _ _ _
                        have hM_149 : M_147 z11 = .inl (cy 14, 24, .inl (f_125)) := by rw [eM_147, va_up_ne _ _ (i11.neT i12 (by decide))]; exact hM_121
                        have hM_150 : M_147 b11 = .inr (12, fs14) := by rw [eM_147, va_up_ne _ _ (hb_13.neT i12 (by decide))]; exact hM_122
                        have hM_151 : M_147 v109 = .inl (cy 14, 24, .inl (f110)) := by rw [eM_147, va_up_ne _ _ (hc109.neT i12 (by decide))]; exact hM_123
                        have hM_152 : M_147 v113 = .inl (cy 14, 24, .inl (f114)) := by rw [eM_147, va_up_ne _ _ (hc113.neT i12 (by decide))]; exact hM_124
                        have hM_153 : M_147 v134 = .inl (cy 14, 24, .inl (f135)) := by rw [eM_147, va_up_ne _ _ (hc134.neT i12 (by decide))]; exact hM135
                        obtain ⟨f_154, ef_154⟩ : ∃ f : Nat → Int32, f = upd f145 ((nI zgw36) : Int32).toNatClampNeg r_142 := ⟨_, rfl⟩
                        rw [← ef_154] at hM_148
                        clear ef_154
                        refine lv_aload_n hx hb dX13_bear_256 rfl (lv_at hl 4 rfl) ?_
                        refine va_get (D := D) (ci := 13) (v := .ref z13) (C := RX13) (T := TX13) (N := 20) hx hb hg inG13 hown hK hP 0 rfl rfl 13 (by decide) (hg _ wd_789) (fun _ h9 => h9) rfl dX13_bear_257 ?_
                        refine lv_aload_n hx hb dX13_bear_260 rfl (lv_at hl 4 rfl) ?_
                        refine va_get (D := D) (ci := 13) (v := .int (nI zgw36)) (C := RX13) (T := TX13) (N := 20) hx hb hg inG13 hown hK hP 0 rfl rfl 16 (by decide) (hg _ wd_769) (fun _ h9 => h9) rfl dX13_bear_261 ?_
                        refine lv_lconst (v := 0) hx hb dX13_bear_264 (by decide) ?_
                        obtain ⟨f155, hM155⟩ := hW.open_15 i13
                        refine pg_last hx hb hK hP hD hS i13.1 1 hM155 rfl (inbN zgw36 24 (by omega) (by omega)) dX13_bear_265 (fun H_156 locs hP hD hS => ?_)
                        obtain ⟨M_157, eM_157⟩ : ∃ M1 : Hp, M1 = va_up M_147 z13 (.inl (cy 15, 24, .inr (.inl (vp_updL f155 ((nI zgw36) : Int32).toNatClampNeg 0)))) := ⟨_, rfl⟩
                        have hP : va_P D vwCl ([(za, .inr (13, [.int 0, .ref z1, .int (nI z2), .int (nI z3), .int z4, .int z5, .ref z6, .ref z7, .ref z8, .ref z9, .int (nI z10), .ref z11, .ref z12, .ref z13, .ref z14, .ref z15, .int (nI zgw36), .ref z17, .int z18, .ref z19]))] ++ va_pl L M_157) H_156 := by rw [eM_157]; exact hP
                        have hD : va_D A ([(za, .inr (13, [.int 0, .ref z1, .int (nI z2), .int (nI z3), .int z4, .int z5, .ref z6, .ref z7, .ref z8, .ref z9, .int (nI z10), .ref z11, .ref z12, .ref z13, .ref z14, .ref z15, .int (nI zgw36), .ref z17, .int z18, .ref z19]))] ++ va_pl L M_157) := by rw [eM_157]; exact hD
                        have hW : WOM cy K L M_157 := by rw [eM_157]; exact hW.up_15 i13 ⟨_, rfl⟩
                        have hF : fr K L [14, 15, 32] M M_157 := by rw [eM_157]; exact hF.up i13 (by decide)
                        have hM_158 : M_157 z13 = .inl (cy 15, 24, .inr (.inl (vp_updL f155 ((nI zgw36) : Int32).toNatClampNeg 0))) := by rw [eM_157]; exact va_up_self _ _ _
                        have hM_159 : M_157 z12 = .inl (cy 14, 24, .inl (f_154)) := by rw [eM_157, va_up_ne _ _ (i12.neT i13 (by decide))]; exact hM_148
                        have hM_160 : M_157 z11 = .inl (cy 14, 24, .inl (f_125)) := by rw [eM_157, va_up_ne _ _ (i11.neT i13 (by decide))]; exact hM_149
                        have hM_161 : M_157 b11 = .inr (12, fs14) := by rw [eM_157, va_up_ne _ _ (hb_13.neT i13 (by decide))]; exact hM_150
                        have hM_162 : M_157 v109 = .inl (cy 14, 24, .inl (f110)) := by rw [eM_157, va_up_ne _ _ (hc109.neT i13 (by decide))]; exact hM_151
                        have hM_163 : M_157 v113 = .inl (cy 14, 24, .inl (f114)) := by rw [eM_157, va_up_ne _ _ (hc113.neT i13 (by decide))]; exact hM_152
                        have hM_164 : M_157 v134 = .inl (cy 14, 24, .inl (f135)) := by rw [eM_157, va_up_ne _ _ (hc134.neT i13 (by decide))]; exact hM_153
                        obtain ⟨f_165, ef_165⟩ : ∃ f : Nat → Int64, f = vp_updL f155 ((nI zgw36) : Int32).toNatClampNeg 0 := ⟨_, rfl⟩
                        rw [← ef_165] at hM_158
                        clear ef_165
                        refine lv_aload_n hx hb dX13_bear_266 rfl (lv_at hl 4 rfl) ?_
                        refine lv_dup hx hb dX13_bear_267 rfl ?_
                        refine va_get (D := D) (ci := 13) (v := .int (nI zgw36)) (C := RX13) (T := TX13) (N := 20) hx hb hg inG13 hown hK hP 0 rfl rfl 16 (by decide) (hg _ wd_769) (fun _ h9 => h9) rfl dX13_bear_268 ?_
                        refine lv_iconst (v := 1) hx hb dX13_bear_271 (by decide) ?_
                        refine lv_iadd hx hb dX13_bear_272 ?_
                        refine lv_topi (fun f_166 ef_166 => ?_)
                        obtain rfl : f_166 = (nI (zgw36 + 1)) := ef_166.trans (nI_add zgw36 1)
                        refine va_put (D := D) (ci := 13) (v := .int (nI (zgw36 + 1))) (ty := .int) (C := RX13) (T := TX13) (N := 20) hx hb hg inG13 tyX13 tyX13_ok nmX13 hown hK hP hD hS 0 rfl rfl 16 (by decide) (hg _ wd_769) (fun _ h9 => h9) rfl (by decide +kernel) rfl rfl (Nat.le_of_ble_eq_true rfl) dX13_bear_273 (fun H_167 locs hP hD hS => ?_)
                        have hP : va_P D vwCl ([(za, .inr (13, [.int 0, .ref z1, .int (nI z2), .int (nI z3), .int z4, .int z5, .ref z6, .ref z7, .ref z8, .ref z9, .int (nI z10), .ref z11, .ref z12, .ref z13, .ref z14, .ref z15, .int (nI (zgw36 + 1)), .ref z17, .int z18, .ref z19]))] ++ va_pl L M_157) H_167 := hP
                        have hD : va_D A ([(za, .inr (13, [.int 0, .ref z1, .int (nI z2), .int (nI z3), .int z4, .int z5, .ref z6, .ref z7, .ref z8, .ref z9, .int (nI z10), .ref z11, .ref z12, .ref z13, .ref z14, .ref z15, .int (nI (zgw36 + 1)), .ref z17, .int z18, .ref z19]))] ++ va_pl L M_157) := hD
                        refine lv_iinc (v := (nI (v5w36 + 1))) (lv' := [(5, .int (nI (v5w36 + 1))), (7, .int 0), (6, .int 1), (4, .ref b11), (0, .ref za), (1, .int k1), (2, .int k2), (3, .int k3)]) hx hb dX13_bear_276 hl (k := 2) rfl (nI_1 v5w36) (by decide) rfl (fun ls hl => ?_)
                        refine lv_goto (tgt := 82) hx hb dX13_bear_279 (by decide) ?_
                        exact ih_34 (v5w36 + 1) (zgw36 + 1) M_157 H_167 _ _ (by omega) hM_161 (by omega) (by omega) hW hF hP hD hS (lv_sub hl [0, 3, 4, 5, 6, 7] rfl)
                      · have hz := rfl (a := 0)
                        refine lv_aload hx hb dX13_bear_158 (lv_at hl 2 rfl) ?_
                        obtain ⟨v168, hv168, hc168⟩ : ∃ v : Nat, fs14[26]? = some (.ref v : Value) ∧ isk K L v 16 24 := hl14 26 (by decide)
                        refine pg_getN (D := D) (ci := 12) (v := .ref v168) (C := RX12) (T := TX12) (N := 51) hx hb hg inG12 hown hK hP hb_13.1 hM_41 rfl 26 (by decide) (hN.use (Cond.fieldLinkNest RX13 124 RX12 "word" "[Z" RX13) 35 rfl rfl) (fun _ h9 => h9) hv168 dX13_bear_160 ?_
                        refine lv_iload hx hb dX13_bear_163 (lv_at hl 1 rfl) ?_
                        obtain ⟨f169, hM169, hf169⟩ := hW.open_16 hc168
                        have hi_170 : vp_in (nI v5w36) 24 := (inbN v5w36 24 (by omega) (by omega))
                        refine pg_zald hx hb hK hP hc168.1 2 hM169 rfl hi_170 dX13_bear_165 ?_
                        rcases hf169 _ (vp_lt hi_170) with ec_171 | ec_171
                        · rw [ec_171]
                          refine lv_if_eq (tgt := 185) hx hb dX13_bear_166 (by decide) (fun _ => ?_) (fun c_172 => absurd c_172 (by decide))
                          refine lv_iconst (v := 0) hx hb dX13_bear_185 (by decide) ?_
                          refine lv_istore (lv' := [(7, .int 0), (6, .int 1), (5, .int (nI v5w36)), (4, .ref b11), (0, .ref za), (1, .int k1), (2, .int k2), (3, .int k3)]) hx hb dX13_bear_186 hl (by decide) rfl (fun ls hl => ?_)
                          refine lv_iload hx hb dX13_bear_188 (lv_at hl 1 rfl) ?_
                          refine lv_if_ne (tgt := 201) hx hb dX13_bear_190 (by decide) (fun _ => ?_) (fun c_173 => absurd c_173 (by decide))
                          refine lv_aload_n hx hb dX13_bear_201 rfl (lv_at hl 4 rfl) ?_
                          refine va_get (D := D) (ci := 13) (v := .ref z11) (C := RX13) (T := TX13) (N := 20) hx hb hg inG13 hown hK hP 0 rfl rfl 11 (by decide) (hg _ wd_764) (fun _ h9 => h9) rfl dX13_bear_202 ?_
                          refine lv_aload_n hx hb dX13_bear_205 rfl (lv_at hl 4 rfl) ?_
                          refine va_get (D := D) (ci := 13) (v := .int (nI zgw36)) (C := RX13) (T := TX13) (N := 20) hx hb hg inG13 hown hK hP 0 rfl rfl 16 (by decide) (hg _ wd_769) (fun _ h9 => h9) rfl dX13_bear_206 ?_
                          refine lv_iload hx hb dX13_bear_209 (lv_at hl 2 rfl) ?_
                          obtain ⟨f174, hM174, hf174⟩ := hW.open_32 i11
                          refine pg_iast hx hb hK hP hD hS i11.1 0 hM174 rfl (inbN zgw36 24 (by omega) (by omega)) dX13_bear_211 (fun H_175 locs hP hD hS => ?_)
                          obtain ⟨M_176, eM_176⟩ : ∃ M1 : Hp, M1 = va_up M_39 z11 (.inl (cy 14, 24, .inl (upd f174 ((nI zgw36) : Int32).toNatClampNeg (nI v5w36)))) := ⟨_, rfl⟩
                          have hP : va_P D vwCl ([(za, .inr (13, [.int 0, .ref z1, .int (nI z2), .int (nI z3), .int z4, .int z5, .ref z6, .ref z7, .ref z8, .ref z9, .int (nI z10), .ref z11, .ref z12, .ref z13, .ref z14, .ref z15, .int (nI zgw36), .ref z17, .int z18, .ref z19]))] ++ va_pl L M_176) H_175 := by rw [eM_176]; exact hP
                          have hD : va_D A ([(za, .inr (13, [.int 0, .ref z1, .int (nI z2), .int (nI z3), .int z4, .int z5, .ref z6, .ref z7, .ref z8, .ref z9, .int (nI z10), .ref z11, .ref z12, .ref z13, .ref z14, .ref z15, .int (nI zgw36), .ref z17, .int z18, .ref z19]))] ++ va_pl L M_176) := by rw [eM_176]; exact hD
                          have hW : WOM cy K L M_176 := by rw [eM_176]; exact hW.up_32 i11 ⟨_, rfl, (updP (P := fun z => ∃ c : Nat, c < 24 ∧ z = nI c) hf174 ⟨v5w36, by omega, rfl⟩)⟩
                          have hF : fr K L [14, 15, 32] M M_176 := by rw [eM_176]; exact hF.up i11 (by decide)
                          have hM_177 : M_176 z11 = .inl (cy 14, 24, .inl (upd f174 ((nI zgw36) : Int32).toNatClampNeg (nI v5w36))) := by rw [eM_176]; exact va_up_self _ _ _
                          have hM_178 : M_176 b11 = .inr (12, fs14) := by rw [eM_176, va_up_ne _ _ (hb_13.neT i11 (by decide))]; exact hM_41
                          have hM_179 : M_176 v109 = .inl (cy 14, 24, .inl (f110)) := by rw [eM_176, va_up_ne _ _ (hc109.neT i11 (by decide))]; exact hM110
                          have hM_180 : M_176 v113 = .inl (cy 14, 24, .inl (f114)) := by rw [eM_176, va_up_ne _ _ (hc113.neT i11 (by decide))]; exact hM114
                          have hM_181 : M_176 v168 = .inl (cy 16, 24, .inl (f169)) := by rw [eM_176, va_up_ne _ _ (hc168.neT i11 (by decide))]; exact hM169
                          have hf_183 : ∀ j, j < 24 → ∃ c : Nat, c < 24 ∧ (upd f174 ((nI zgw36) : Int32).toNatClampNeg (nI v5w36)) j = nI c := (updP (P := fun z => ∃ c : Nat, c < 24 ∧ z = nI c) hf174 ⟨v5w36, by omega, rfl⟩)
                          obtain ⟨f_182, ef_182⟩ : ∃ f : Nat → Int32, f = upd f174 ((nI zgw36) : Int32).toNatClampNeg (nI v5w36) := ⟨_, rfl⟩
                          rw [← ef_182] at hM_177 hf_183
                          clear ef_182
                          refine lv_aload_n hx hb dX13_bear_212 rfl (lv_at hl 4 rfl) ?_
                          refine va_get (D := D) (ci := 13) (v := .ref z12) (C := RX13) (T := TX13) (N := 20) hx hb hg inG13 hown hK hP 0 rfl rfl 12 (by decide) (hg _ wd_763) (fun _ h9 => h9) rfl dX13_bear_213 ?_
                          refine lv_aload_n hx hb dX13_bear_216 rfl (lv_at hl 4 rfl) ?_
                          refine va_get (D := D) (ci := 13) (v := .int (nI zgw36)) (C := RX13) (T := TX13) (N := 20) hx hb hg inG13 hown hK hP 0 rfl rfl 16 (by decide) (hg _ wd_769) (fun _ h9 => h9) rfl dX13_bear_217 ?_
                          refine lv_aload hx hb dX13_bear_220 (lv_at hl 3 rfl) ?_
                          refine lv_iload hx hb dX13_bear_222 (lv_at hl 1 rfl) ?_
                          refine lv_if_eq (tgt := 236) hx hb dX13_bear_224 (by decide) (fun c_184 => absurd c_184 (by decide)) (fun _ => ?_)
                          refine lv_aload hx hb dX13_bear_227 (lv_at hl 3 rfl) ?_
                          refine lv_iload_n hx hb dX13_bear_229 rfl (lv_at hl 6 rfl) ?_
                          have hPc : va_P D vwCl ([] ++ va_pl L M_176) H_175 := hP.part (cx := []) [] rfl
                          have hDc : va_D A ([] ++ va_pl L M_176) := hD.part (cx := []) [] (by decide) rfl
                          have hFc : ∀ q, va_A ([] ++ va_pl L M_176) H_175.size q → A q := pg_free hDc hS hA
                          refine va_calli (va_runV (As := [.int k2]) (rest := [.ref b11, .int (nI zgw36), .ref z12]) ⟨hx, hb, hml, hown, hg⟩ (r_ruleOnP l D cy K L M_176 H_175.size b11 k2  hW hb_13 (RLD.of hW (RLI.fr hW0 hRL hF (by decide) (by decide)) hb_13 hM_178 hv15 (by omega) hc15 hv24 (Int32.not_lt.mp c_25))) (cwV 1 hg (gV wd_815 wd_816 wd_817 wd_737 wd_818) rfl rfl rfl (by decide +kernel) ⟨(Nat.le_trans (Nat.le_of_ble_eq_true rfl) hRf), (Nat.le_trans (Nat.le_of_ble_eq_true rfl) hRl)⟩) ⟨PG.blind, pg_recv hK hP hb_13.1 hM_178 rfl, fun U hU hW => ⟨rfl, PG.at hPc hK hDc hN hU hW⟩⟩ rfl rfl hl.1 rfl (lv_room (Nat.le_of_ble_eq_true rfl)) dX13_bear_230 ⟨(Nat.le_trans (Nat.le_of_ble_eq_true rfl) hRc), (Nat.le_trans (Nat.le_of_ble_eq_true rfl) hRs)⟩) hS (fun q _ h => hFc q h) hFc (fun r_186 M_187 t H_185 locs ht hvm hw hB hz1 hk1 hS => ?_)
                          have hp_188 := hw
                          obtain ⟨hP1, hD1⟩ := hB
                          rw [ht] at hP1
                          obtain ⟨hP, hD⟩ := va_joinP (X := [(za, .inr (13, [.int 0, .ref z1, .int (nI z2), .int (nI z3), .int z4, .int z5, .ref z6, .ref z7, .ref z8, .ref z9, .int (nI z10), .ref z11, .ref z12, .ref z13, .ref z14, .ref z15, .int (nI zgw36), .ref z17, .int z18, .ref z19]))]) (cx := []) (wr := [(za, .inr (13, [.int 0, .ref z1, .int (nI z2), .int (nI z3), .int z4, .int z5, .ref z6, .ref z7, .ref z8, .ref z9, .int (nI z10), .ref z11, .ref z12, .ref z13, .ref z14, .ref z15, .int (nI zgw36), .ref z17, .int z18, .ref z19]))]) (rx := []) (pl := va_pl L M_176) (pl1 := va_pl L M_176) hP hD [] [0] rfl rfl (by decide) (by decide) hk1 hFc hP1 hD1
                          have hP : va_P D vwCl ([(za, .inr (13, [.int 0, .ref z1, .int (nI z2), .int (nI z3), .int z4, .int z5, .ref z6, .ref z7, .ref z8, .ref z9, .int (nI z10), .ref z11, .ref z12, .ref z13, .ref z14, .ref z15, .int (nI zgw36), .ref z17, .int z18, .ref z19]))] ++ va_pl L M_176) H_185 := hP
                          have hD : va_D A ([(za, .inr (13, [.int 0, .ref z1, .int (nI z2), .int (nI z3), .int z4, .int z5, .ref z6, .ref z7, .ref z8, .ref z9, .int (nI z10), .ref z11, .ref z12, .ref z13, .ref z14, .ref z15, .int (nI zgw36), .ref z17, .int z18, .ref z19]))] ++ va_pl L M_176) := hD
                          obtain ⟨j_189, rfl, c_190⟩ := hp_188
                          refine lv_goto (tgt := 243) hx hb dX13_bear_233 (by decide) ?_
                          refine lv_iconst (v := 3) hx hb dX13_bear_243 (by decide) ?_
                          refine lv_aload hx hb dX13_bear_244 (lv_at hl 3 rfl) ?_
                          obtain ⟨v191, hv191, hc191⟩ : ∃ v : Nat, fs14[20]? = some (.ref v : Value) ∧ isk K L v 31 24 := hl14 20 (by decide)
                          refine pg_getN (D := D) (ci := 12) (v := .ref v191) (C := RX12) (T := TX12) (N := 51) hx hb hg inG12 hown hK hP hb_13.1 hM_178 rfl 20 (by decide) (hN.use (Cond.fieldLinkNest RX13 110 RX12 "where" "[I" RX13) 29 rfl rfl) (fun _ h9 => h9) hv191 dX13_bear_246 ?_
                          refine lv_iload hx hb dX13_bear_249 (lv_at hl 2 rfl) ?_
                          obtain ⟨f192, hM192, hf192⟩ := hW.open_31 hc191
                          have hi_193 : vp_in (nI v5w36) 24 := (inbN v5w36 24 (by omega) (by omega))
                          refine pg_iald hx hb hK hP hc191.1 0 hM192 rfl hi_193 dX13_bear_251 ?_
                          have hp_194 := hf192 _ (vp_lt hi_193)
                          obtain ⟨c_195, hc_196, ec_197⟩ := hp_194
                          rw [ec_197]
                          have hPc : va_P D vwCl ([] ++ va_pl L M_176) H_185 := hP.part (cx := []) [] rfl
                          have hDc : va_D A ([] ++ va_pl L M_176) := hD.part (cx := []) [] (by decide) rfl
                          have hFc : ∀ q, va_A ([] ++ va_pl L M_176) H_185.size q → A q := pg_free hDc hS hA
                          refine va_calli (va_runV (As := [.int (nI j_189), .int 3, .int (nI c_195)]) (rest := [.int (nI zgw36), .ref z12]) ⟨hx, hb, hml, hown, hg⟩ (r_X12_term l D cy K L M_176 H_185.size b11 j_189 3 c_195  hW hb_13 c_190 (by omega) hc_196) (cwV 3 hg (gV wd_770 wd_771 wd_772 wd_737 wd_773) rfl rfl rfl (by decide +kernel) ⟨(Nat.le_trans (Nat.le_of_ble_eq_true rfl) hRf), (Nat.le_trans (Nat.le_of_ble_eq_true rfl) hRl)⟩) ⟨PG.blind, pg_recv hK hP hb_13.1 hM_178 rfl, fun U hU hW => ⟨rfl, PG.at hPc hK hDc hN hU hW⟩⟩ rfl rfl hl.1 rfl (lv_room (Nat.le_of_ble_eq_true rfl)) dX13_bear_252 ⟨(Nat.le_trans (Nat.le_of_ble_eq_true rfl) hRc), (Nat.le_trans (Nat.le_of_ble_eq_true rfl) hRs)⟩) hS (fun q _ h => hFc q h) hFc (fun r_199 M_200 t H_198 locs ht hvm hw hB hz1 hk1 hS => ?_)
                          have hp_201 := hw
                          obtain ⟨hP1, hD1⟩ := hB
                          rw [ht] at hP1
                          obtain ⟨hP, hD⟩ := va_joinP (X := [(za, .inr (13, [.int 0, .ref z1, .int (nI z2), .int (nI z3), .int z4, .int z5, .ref z6, .ref z7, .ref z8, .ref z9, .int (nI z10), .ref z11, .ref z12, .ref z13, .ref z14, .ref z15, .int (nI zgw36), .ref z17, .int z18, .ref z19]))]) (cx := []) (wr := [(za, .inr (13, [.int 0, .ref z1, .int (nI z2), .int (nI z3), .int z4, .int z5, .ref z6, .ref z7, .ref z8, .ref z9, .int (nI z10), .ref z11, .ref z12, .ref z13, .ref z14, .ref z15, .int (nI zgw36), .ref z17, .int z18, .ref z19]))]) (rx := []) (pl := va_pl L M_176) (pl1 := va_pl L M_176) hP hD [] [0] rfl rfl (by decide) (by decide) hk1 hFc hP1 hD1
                          have hP : va_P D vwCl ([(za, .inr (13, [.int 0, .ref z1, .int (nI z2), .int (nI z3), .int z4, .int z5, .ref z6, .ref z7, .ref z8, .ref z9, .int (nI z10), .ref z11, .ref z12, .ref z13, .ref z14, .ref z15, .int (nI zgw36), .ref z17, .int z18, .ref z19]))] ++ va_pl L M_176) H_198 := hP
                          have hD : va_D A ([(za, .inr (13, [.int 0, .ref z1, .int (nI z2), .int (nI z3), .int z4, .int z5, .ref z6, .ref z7, .ref z8, .ref z9, .int (nI z10), .ref z11, .ref z12, .ref z13, .ref z14, .ref z15, .int (nI zgw36), .ref z17, .int z18, .ref z19]))] ++ va_pl L M_176) := hD
                          obtain ⟨f202, hM202⟩ := hW.open_14 i12
                          refine pg_iast hx hb hK hP hD hS i12.1 0 hM202 rfl (inbN zgw36 24 (by omega) (by omega)) dX13_bear_255 (fun H_203 locs hP hD hS => ?_)
                          obtain ⟨M_204, eM_204⟩ : ∃ M1 : Hp, M1 = va_up M_176 z12 (.inl (cy 14, 24, .inl (upd f202 ((nI zgw36) : Int32).toNatClampNeg r_199))) := ⟨_, rfl⟩
                          have hP : va_P D vwCl ([(za, .inr (13, [.int 0, .ref z1, .int (nI z2), .int (nI z3), .int z4, .int z5, .ref z6, .ref z7, .ref z8, .ref z9, .int (nI z10), .ref z11, .ref z12, .ref z13, .ref z14, .ref z15, .int (nI zgw36), .ref z17, .int z18, .ref z19]))] ++ va_pl L M_204) H_203 := by rw [eM_204]; exact hP
                          have hD : va_D A ([(za, .inr (13, [.int 0, .ref z1, .int (nI z2), .int (nI z3), .int z4, .int z5, .ref z6, .ref z7, .ref z8, .ref z9, .int (nI z10), .ref z11, .ref z12, .ref z13, .ref z14, .ref z15, .int (nI zgw36), .ref z17, .int z18, .ref z19]))] ++ va_pl L M_204) := by rw [eM_204]; exact hD
                          have hW : WOM cy K L M_204 := by rw [eM_204]; exact hW.up_14 i12 ⟨_, rfl⟩
                          have hF : fr K L [14, 15, 32] M M_204 := by rw [eM_204]; exact hF.up i12 (by decide)
                          have hM_205 : M_204 z12 = .inl (cy 14, 24, .inl (upd f202 ((nI zgw36) : Int32).toNatClampNeg r_199)) := by rw [eM_204]; exact va_up_self _ _ _
                          have hM_206 : M_204 z11 = .inl (cy 14, 24, .inl (f_182)) := by rw [eM_204, va_up_ne _ _ (i11.neT i12 (by decide))]; exact hM_177
                          have hM_207 : M_204 b11 = .inr (12, fs14) := by rw [eM_204, va_up_ne _ _ (hb_13.neT i12 (by decide))]; exact hM_178
                          have hM_208 : M_204 v109 = .inl (cy 14, 24, .inl (f110)) := by rw [eM_204, va_up_ne _ _ (hc109.neT i12 (by decide))]; exact hM_179
                          have hM_209 : M_204 v113 = .inl (cy 14, 24, .inl (f114)) := by rw [eM_204, va_up_ne _ _ (hc113.neT i12 (by decide))]; exact hM_180
                          have hM_210 : M_204 v168 = .inl (cy 16, 24, .inl (f169)) := by rw [eM_204, va_up_ne _ _ (hc168.neT i12 (by decide))]; exact hM_181
                          have hM_211 : M_204 v191 = .inl (cy 14, 24, .inl (f192)) := by rw [eM_204, va_up_ne _ _ (hc191.neT i12 (by decide))]; exact hM192
                          obtain ⟨f_212, ef_212⟩ : ∃ f : Nat → Int32, f = upd f202 ((nI zgw36) : Int32).toNatClampNeg r_199 := ⟨_, rfl⟩
                          rw [← ef_212] at hM_205
                          clear ef_212
                          refine lv_aload_n hx hb dX13_bear_256 rfl (lv_at hl 4 rfl) ?_
                          refine va_get (D := D) (ci := 13) (v := .ref z13) (C := RX13) (T := TX13) (N := 20) hx hb hg inG13 hown hK hP 0 rfl rfl 13 (by decide) (hg _ wd_789) (fun _ h9 => h9) rfl dX13_bear_257 ?_
                          refine lv_aload_n hx hb dX13_bear_260 rfl (lv_at hl 4 rfl) ?_
                          refine va_get (D := D) (ci := 13) (v := .int (nI zgw36)) (C := RX13) (T := TX13) (N := 20) hx hb hg inG13 hown hK hP 0 rfl rfl 16 (by decide) (hg _ wd_769) (fun _ h9 => h9) rfl dX13_bear_261 ?_
                          refine lv_lconst (v := 0) hx hb dX13_bear_264 (by decide) ?_
                          obtain ⟨f213, hM213⟩ := hW.open_15 i13
                          refine pg_last hx hb hK hP hD hS i13.1 1 hM213 rfl (inbN zgw36 24 (by omega) (by omega)) dX13_bear_265 (fun H_214 locs hP hD hS => ?_)
                          obtain ⟨M_215, eM_215⟩ : ∃ M1 : Hp, M1 = va_up M_204 z13 (.inl (cy 15, 24, .inr (.inl (vp_updL f213 ((nI zgw36) : Int32).toNatClampNeg 0)))) := ⟨_, rfl⟩
                          have hP : va_P D vwCl ([(za, .inr (13, [.int 0, .ref z1, .int (nI z2), .int (nI z3), .int z4, .int z5, .ref z6, .ref z7, .ref z8, .ref z9, .int (nI z10), .ref z11, .ref z12, .ref z13, .ref z14, .ref z15, .int (nI zgw36), .ref z17, .int z18, .ref z19]))] ++ va_pl L M_215) H_214 := by rw [eM_215]; exact hP
                          have hD : va_D A ([(za, .inr (13, [.int 0, .ref z1, .int (nI z2), .int (nI z3), .int z4, .int z5, .ref z6, .ref z7, .ref z8, .ref z9, .int (nI z10), .ref z11, .ref z12, .ref z13, .ref z14, .ref z15, .int (nI zgw36), .ref z17, .int z18, .ref z19]))] ++ va_pl L M_215) := by rw [eM_215]; exact hD
                          have hW : WOM cy K L M_215 := by rw [eM_215]; exact hW.up_15 i13 ⟨_, rfl⟩
                          have hF : fr K L [14, 15, 32] M M_215 := by rw [eM_215]; exact hF.up i13 (by decide)
                          have hM_216 : M_215 z13 = .inl (cy 15, 24, .inr (.inl (vp_updL f213 ((nI zgw36) : Int32).toNatClampNeg 0))) := by rw [eM_215]; exact va_up_self _ _ _
                          have hM_217 : M_215 z12 = .inl (cy 14, 24, .inl (f_212)) := by rw [eM_215, va_up_ne _ _ (i12.neT i13 (by decide))]; exact hM_205
                          have hM_218 : M_215 z11 = .inl (cy 14, 24, .inl (f_182)) := by rw [eM_215, va_up_ne _ _ (i11.neT i13 (by decide))]; exact hM_206
                          have hM_219 : M_215 b11 = .inr (12, fs14) := by rw [eM_215, va_up_ne _ _ (hb_13.neT i13 (by decide))]; exact hM_207
                          have hM_220 : M_215 v109 = .inl (cy 14, 24, .inl (f110)) := by rw [eM_215, va_up_ne _ _ (hc109.neT i13 (by decide))]; exact hM_208
                          have hM_221 : M_215 v113 = .inl (cy 14, 24, .inl (f114)) := by rw [eM_215, va_up_ne _ _ (hc113.neT i13 (by decide))]; exact hM_209
                          have hM_222 : M_215 v168 = .inl (cy 16, 24, .inl (f169)) := by rw [eM_215, va_up_ne _ _ (hc168.neT i13 (by decide))]; exact hM_210
                          have hM_223 : M_215 v191 = .inl (cy 14, 24, .inl (f192)) := by rw [eM_215, va_up_ne _ _ (hc191.neT i13 (by decide))]; exact hM_211
                          obtain ⟨f_224, ef_224⟩ : ∃ f : Nat → Int64, f = vp_updL f213 ((nI zgw36) : Int32).toNatClampNeg 0 := ⟨_, rfl⟩
                          rw [← ef_224] at hM_216
                          clear ef_224
                          refine lv_aload_n hx hb dX13_bear_266 rfl (lv_at hl 4 rfl) ?_
                          refine lv_dup hx hb dX13_bear_267 rfl ?_
                          refine va_get (D := D) (ci := 13) (v := .int (nI zgw36)) (C := RX13) (T := TX13) (N := 20) hx hb hg inG13 hown hK hP 0 rfl rfl 16 (by decide) (hg _ wd_769) (fun _ h9 => h9) rfl dX13_bear_268 ?_
                          refine lv_iconst (v := 1) hx hb dX13_bear_271 (by decide) ?_
                          refine lv_iadd hx hb dX13_bear_272 ?_
                          refine lv_topi (fun f_225 ef_225 => ?_)
                          obtain rfl : f_225 = (nI (zgw36 + 1)) := ef_225.trans (nI_add zgw36 1)
                          refine va_put (D := D) (ci := 13) (v := .int (nI (zgw36 + 1))) (ty := .int) (C := RX13) (T := TX13) (N := 20) hx hb hg inG13 tyX13 tyX13_ok nmX13 hown hK hP hD hS 0 rfl rfl 16 (by decide) (hg _ wd_769) (fun _ h9 => h9) rfl (by decide +kernel) rfl rfl (Nat.le_of_ble_eq_true rfl) dX13_bear_273 (fun H_226 locs hP hD hS => ?_)
                          have hP : va_P D vwCl ([(za, .inr (13, [.int 0, .ref z1, .int (nI z2), .int (nI z3), .int z4, .int z5, .ref z6, .ref z7, .ref z8, .ref z9, .int (nI z10), .ref z11, .ref z12, .ref z13, .ref z14, .ref z15, .int (nI (zgw36 + 1)), .ref z17, .int z18, .ref z19]))] ++ va_pl L M_215) H_226 := hP
                          have hD : va_D A ([(za, .inr (13, [.int 0, .ref z1, .int (nI z2), .int (nI z3), .int z4, .int z5, .ref z6, .ref z7, .ref z8, .ref z9, .int (nI z10), .ref z11, .ref z12, .ref z13, .ref z14, .ref z15, .int (nI (zgw36 + 1)), .ref z17, .int z18, .ref z19]))] ++ va_pl L M_215) := hD
                          refine lv_iinc (v := (nI (v5w36 + 1))) (lv' := [(5, .int (nI (v5w36 + 1))), (7, .int 0), (6, .int 1), (4, .ref b11), (0, .ref za), (1, .int k1), (2, .int k2), (3, .int k3)]) hx hb dX13_bear_276 hl (k := 2) rfl (nI_1 v5w36) (by decide) rfl (fun ls hl => ?_)
                          refine lv_goto (tgt := 82) hx hb dX13_bear_279 (by decide) ?_
                          exact ih_34 (v5w36 + 1) (zgw36 + 1) M_215 H_226 _ _ (by omega) hM_219 (by omega) (by omega) hW hF hP hD hS (lv_sub hl [0, 3, 4, 5, 6, 7] rfl)
                        · rw [ec_171]
                          refine lv_if_eq (tgt := 185) hx hb dX13_bear_166 (by decide) (fun c_227 => absurd c_227 (by decide)) (fun _ => ?_)
                          refine lv_aload hx hb dX13_bear_169 (lv_at hl 2 rfl) ?_
                          refine pg_getN (D := D) (ci := 12) (v := .ref v109) (C := RX12) (T := TX12) (N := 51) hx hb hg inG12 hown hK hP hb_13.1 hM_41 rfl 22 (by decide) (hN.use (Cond.fieldLinkNest RX13 95 RX12 "ended" "[I" RX13) 31 rfl rfl) (fun _ h9 => h9) hv109 dX13_bear_171 ?_
                          refine lv_iload hx hb dX13_bear_174 (lv_at hl 1 rfl) ?_
                          refine pg_iald hx hb hK hP hc109.1 0 hM110 rfl (inbN v5w36 24 (by omega) (by omega)) dX13_bear_176 ?_
                          refine lv_topi (fun f_228 ef_228 => ?_)
                          refine lv_iconst (v := (-1)) hx hb dX13_bear_177 (by decide) ?_
                          refine lv_icmp_ne (tgt := 185) hx hb dX13_bear_178 (by decide) (fun c_229 => ?_) (fun c_229 => ?_)
                          · have hz := rfl (a := 0)
                            refine lv_iconst (v := 0) hx hb dX13_bear_185 (by decide) ?_
                            refine lv_istore (lv' := [(7, .int 0), (6, .int 1), (5, .int (nI v5w36)), (4, .ref b11), (0, .ref za), (1, .int k1), (2, .int k2), (3, .int k3)]) hx hb dX13_bear_186 hl (by decide) rfl (fun ls hl => ?_)
                            refine lv_iload hx hb dX13_bear_188 (lv_at hl 1 rfl) ?_
                            refine lv_if_ne (tgt := 201) hx hb dX13_bear_190 (by decide) (fun _ => ?_) (fun c_230 => absurd c_230 (by decide))
                            refine lv_aload_n hx hb dX13_bear_201 rfl (lv_at hl 4 rfl) ?_
                            refine va_get (D := D) (ci := 13) (v := .ref z11) (C := RX13) (T := TX13) (N := 20) hx hb hg inG13 hown hK hP 0 rfl rfl 11 (by decide) (hg _ wd_764) (fun _ h9 => h9) rfl dX13_bear_202 ?_
                            refine lv_aload_n hx hb dX13_bear_205 rfl (lv_at hl 4 rfl) ?_
                            refine va_get (D := D) (ci := 13) (v := .int (nI zgw36)) (C := RX13) (T := TX13) (N := 20) hx hb hg inG13 hown hK hP 0 rfl rfl 16 (by decide) (hg _ wd_769) (fun _ h9 => h9) rfl dX13_bear_206 ?_
                            refine lv_iload hx hb dX13_bear_209 (lv_at hl 2 rfl) ?_
                            obtain ⟨f231, hM231, hf231⟩ := hW.open_32 i11
                            refine pg_iast hx hb hK hP hD hS i11.1 0 hM231 rfl (inbN zgw36 24 (by omega) (by omega)) dX13_bear_211 (fun H_232 locs hP hD hS => ?_)
                            obtain ⟨M_233, eM_233⟩ : ∃ M1 : Hp, M1 = va_up M_39 z11 (.inl (cy 14, 24, .inl (upd f231 ((nI zgw36) : Int32).toNatClampNeg (nI v5w36)))) := ⟨_, rfl⟩
                            have hP : va_P D vwCl ([(za, .inr (13, [.int 0, .ref z1, .int (nI z2), .int (nI z3), .int z4, .int z5, .ref z6, .ref z7, .ref z8, .ref z9, .int (nI z10), .ref z11, .ref z12, .ref z13, .ref z14, .ref z15, .int (nI zgw36), .ref z17, .int z18, .ref z19]))] ++ va_pl L M_233) H_232 := by rw [eM_233]; exact hP
                            have hD : va_D A ([(za, .inr (13, [.int 0, .ref z1, .int (nI z2), .int (nI z3), .int z4, .int z5, .ref z6, .ref z7, .ref z8, .ref z9, .int (nI z10), .ref z11, .ref z12, .ref z13, .ref z14, .ref z15, .int (nI zgw36), .ref z17, .int z18, .ref z19]))] ++ va_pl L M_233) := by rw [eM_233]; exact hD
                            have hW : WOM cy K L M_233 := by rw [eM_233]; exact hW.up_32 i11 ⟨_, rfl, (updP (P := fun z => ∃ c : Nat, c < 24 ∧ z = nI c) hf231 ⟨v5w36, by omega, rfl⟩)⟩
                            have hF : fr K L [14, 15, 32] M M_233 := by rw [eM_233]; exact hF.up i11 (by decide)
                            have hM_234 : M_233 z11 = .inl (cy 14, 24, .inl (upd f231 ((nI zgw36) : Int32).toNatClampNeg (nI v5w36))) := by rw [eM_233]; exact va_up_self _ _ _
                            have hM_235 : M_233 b11 = .inr (12, fs14) := by rw [eM_233, va_up_ne _ _ (hb_13.neT i11 (by decide))]; exact hM_41
                            have hM_236 : M_233 v109 = .inl (cy 14, 24, .inl (f110)) := by rw [eM_233, va_up_ne _ _ (hc109.neT i11 (by decide))]; exact hM110
                            have hM_237 : M_233 v113 = .inl (cy 14, 24, .inl (f114)) := by rw [eM_233, va_up_ne _ _ (hc113.neT i11 (by decide))]; exact hM114
                            have hM_238 : M_233 v168 = .inl (cy 16, 24, .inl (f169)) := by rw [eM_233, va_up_ne _ _ (hc168.neT i11 (by decide))]; exact hM169
                            have hf_240 : ∀ j, j < 24 → ∃ c : Nat, c < 24 ∧ (upd f231 ((nI zgw36) : Int32).toNatClampNeg (nI v5w36)) j = nI c := (updP (P := fun z => ∃ c : Nat, c < 24 ∧ z = nI c) hf231 ⟨v5w36, by omega, rfl⟩)
                            obtain ⟨f_239, ef_239⟩ : ∃ f : Nat → Int32, f = upd f231 ((nI zgw36) : Int32).toNatClampNeg (nI v5w36) := ⟨_, rfl⟩
                            rw [← ef_239] at hM_234 hf_240
                            clear ef_239
                            refine lv_aload_n hx hb dX13_bear_212 rfl (lv_at hl 4 rfl) ?_
                            refine va_get (D := D) (ci := 13) (v := .ref z12) (C := RX13) (T := TX13) (N := 20) hx hb hg inG13 hown hK hP 0 rfl rfl 12 (by decide) (hg _ wd_763) (fun _ h9 => h9) rfl dX13_bear_213 ?_
                            refine lv_aload_n hx hb dX13_bear_216 rfl (lv_at hl 4 rfl) ?_
                            refine va_get (D := D) (ci := 13) (v := .int (nI zgw36)) (C := RX13) (T := TX13) (N := 20) hx hb hg inG13 hown hK hP 0 rfl rfl 16 (by decide) (hg _ wd_769) (fun _ h9 => h9) rfl dX13_bear_217 ?_
                            refine lv_aload hx hb dX13_bear_220 (lv_at hl 3 rfl) ?_
                            refine lv_iload hx hb dX13_bear_222 (lv_at hl 1 rfl) ?_
                            refine lv_if_eq (tgt := 236) hx hb dX13_bear_224 (by decide) (fun c_241 => absurd c_241 (by decide)) (fun _ => ?_)
                            refine lv_aload hx hb dX13_bear_227 (lv_at hl 3 rfl) ?_
                            refine lv_iload_n hx hb dX13_bear_229 rfl (lv_at hl 6 rfl) ?_
                            have hPc : va_P D vwCl ([] ++ va_pl L M_233) H_232 := hP.part (cx := []) [] rfl
                            have hDc : va_D A ([] ++ va_pl L M_233) := hD.part (cx := []) [] (by decide) rfl
                            have hFc : ∀ q, va_A ([] ++ va_pl L M_233) H_232.size q → A q := pg_free hDc hS hA
                            refine va_calli (va_runV (As := [.int k2]) (rest := [.ref b11, .int (nI zgw36), .ref z12]) ⟨hx, hb, hml, hown, hg⟩ (r_ruleOnP l D cy K L M_233 H_232.size b11 k2  hW hb_13 (RLD.of hW (RLI.fr hW0 hRL hF (by decide) (by decide)) hb_13 hM_235 hv15 (by omega) hc15 hv24 (Int32.not_lt.mp c_25))) (cwV 1 hg (gV wd_815 wd_816 wd_817 wd_737 wd_818) rfl rfl rfl (by decide +kernel) ⟨(Nat.le_trans (Nat.le_of_ble_eq_true rfl) hRf), (Nat.le_trans (Nat.le_of_ble_eq_true rfl) hRl)⟩) ⟨PG.blind, pg_recv hK hP hb_13.1 hM_235 rfl, fun U hU hW => ⟨rfl, PG.at hPc hK hDc hN hU hW⟩⟩ rfl rfl hl.1 rfl (lv_room (Nat.le_of_ble_eq_true rfl)) dX13_bear_230 ⟨(Nat.le_trans (Nat.le_of_ble_eq_true rfl) hRc), (Nat.le_trans (Nat.le_of_ble_eq_true rfl) hRs)⟩) hS (fun q _ h => hFc q h) hFc (fun r_243 M_244 t H_242 locs ht hvm hw hB hz1 hk1 hS => ?_)
                            have hp_245 := hw
                            obtain ⟨hP1, hD1⟩ := hB
                            rw [ht] at hP1
                            obtain ⟨hP, hD⟩ := va_joinP (X := [(za, .inr (13, [.int 0, .ref z1, .int (nI z2), .int (nI z3), .int z4, .int z5, .ref z6, .ref z7, .ref z8, .ref z9, .int (nI z10), .ref z11, .ref z12, .ref z13, .ref z14, .ref z15, .int (nI zgw36), .ref z17, .int z18, .ref z19]))]) (cx := []) (wr := [(za, .inr (13, [.int 0, .ref z1, .int (nI z2), .int (nI z3), .int z4, .int z5, .ref z6, .ref z7, .ref z8, .ref z9, .int (nI z10), .ref z11, .ref z12, .ref z13, .ref z14, .ref z15, .int (nI zgw36), .ref z17, .int z18, .ref z19]))]) (rx := []) (pl := va_pl L M_233) (pl1 := va_pl L M_233) hP hD [] [0] rfl rfl (by decide) (by decide) hk1 hFc hP1 hD1
                            have hP : va_P D vwCl ([(za, .inr (13, [.int 0, .ref z1, .int (nI z2), .int (nI z3), .int z4, .int z5, .ref z6, .ref z7, .ref z8, .ref z9, .int (nI z10), .ref z11, .ref z12, .ref z13, .ref z14, .ref z15, .int (nI zgw36), .ref z17, .int z18, .ref z19]))] ++ va_pl L M_233) H_242 := hP
                            have hD : va_D A ([(za, .inr (13, [.int 0, .ref z1, .int (nI z2), .int (nI z3), .int z4, .int z5, .ref z6, .ref z7, .ref z8, .ref z9, .int (nI z10), .ref z11, .ref z12, .ref z13, .ref z14, .ref z15, .int (nI zgw36), .ref z17, .int z18, .ref z19]))] ++ va_pl L M_233) := hD
                            obtain ⟨j_246, rfl, c_247⟩ := hp_245
                            refine lv_goto (tgt := 243) hx hb dX13_bear_233 (by decide) ?_
                            refine lv_iconst (v := 3) hx hb dX13_bear_243 (by decide) ?_
                            refine lv_aload hx hb dX13_bear_244 (lv_at hl 3 rfl) ?_
                            obtain ⟨v248, hv248, hc248⟩ : ∃ v : Nat, fs14[20]? = some (.ref v : Value) ∧ isk K L v 31 24 := hl14 20 (by decide)
                            refine pg_getN (D := D) (ci := 12) (v := .ref v248) (C := RX12) (T := TX12) (N := 51) hx hb hg inG12 hown hK hP hb_13.1 hM_235 rfl 20 (by decide) (hN.use (Cond.fieldLinkNest RX13 110 RX12 "where" "[I" RX13) 29 rfl rfl) (fun _ h9 => h9) hv248 dX13_bear_246 ?_
                            refine lv_iload hx hb dX13_bear_249 (lv_at hl 2 rfl) ?_
                            obtain ⟨f249, hM249, hf249⟩ := hW.open_31 hc248
                            have hi_250 : vp_in (nI v5w36) 24 := (inbN v5w36 24 (by omega) (by omega))
                            refine pg_iald hx hb hK hP hc248.1 0 hM249 rfl hi_250 dX13_bear_251 ?_
                            have hp_251 := hf249 _ (vp_lt hi_250)
                            obtain ⟨c_252, hc_253, ec_254⟩ := hp_251
                            rw [ec_254]
                            have hPc : va_P D vwCl ([] ++ va_pl L M_233) H_242 := hP.part (cx := []) [] rfl
                            have hDc : va_D A ([] ++ va_pl L M_233) := hD.part (cx := []) [] (by decide) rfl
                            have hFc : ∀ q, va_A ([] ++ va_pl L M_233) H_242.size q → A q := pg_free hDc hS hA
                            refine va_calli (va_runV (As := [.int (nI j_246), .int 3, .int (nI c_252)]) (rest := [.int (nI zgw36), .ref z12]) ⟨hx, hb, hml, hown, hg⟩ (r_X12_term l D cy K L M_233 H_242.size b11 j_246 3 c_252  hW hb_13 c_247 (by omega) hc_253) (cwV 3 hg (gV wd_770 wd_771 wd_772 wd_737 wd_773) rfl rfl rfl (by decide +kernel) ⟨(Nat.le_trans (Nat.le_of_ble_eq_true rfl) hRf), (Nat.le_trans (Nat.le_of_ble_eq_true rfl) hRl)⟩) ⟨PG.blind, pg_recv hK hP hb_13.1 hM_235 rfl, fun U hU hW => ⟨rfl, PG.at hPc hK hDc hN hU hW⟩⟩ rfl rfl hl.1 rfl (lv_room (Nat.le_of_ble_eq_true rfl)) dX13_bear_252 ⟨(Nat.le_trans (Nat.le_of_ble_eq_true rfl) hRc), (Nat.le_trans (Nat.le_of_ble_eq_true rfl) hRs)⟩) hS (fun q _ h => hFc q h) hFc (fun r_256 M_257 t H_255 locs ht hvm hw hB hz1 hk1 hS => ?_)
                            have hp_258 := hw
                            obtain ⟨hP1, hD1⟩ := hB
                            rw [ht] at hP1
                            obtain ⟨hP, hD⟩ := va_joinP (X := [(za, .inr (13, [.int 0, .ref z1, .int (nI z2), .int (nI z3), .int z4, .int z5, .ref z6, .ref z7, .ref z8, .ref z9, .int (nI z10), .ref z11, .ref z12, .ref z13, .ref z14, .ref z15, .int (nI zgw36), .ref z17, .int z18, .ref z19]))]) (cx := []) (wr := [(za, .inr (13, [.int 0, .ref z1, .int (nI z2), .int (nI z3), .int z4, .int z5, .ref z6, .ref z7, .ref z8, .ref z9, .int (nI z10), .ref z11, .ref z12, .ref z13, .ref z14, .ref z15, .int (nI zgw36), .ref z17, .int z18, .ref z19]))]) (rx := []) (pl := va_pl L M_233) (pl1 := va_pl L M_233) hP hD [] [0] rfl rfl (by decide) (by decide) hk1 hFc hP1 hD1
                            have hP : va_P D vwCl ([(za, .inr (13, [.int 0, .ref z1, .int (nI z2), .int (nI z3), .int z4, .int z5, .ref z6, .ref z7, .ref z8, .ref z9, .int (nI z10), .ref z11, .ref z12, .ref z13, .ref z14, .ref z15, .int (nI zgw36), .ref z17, .int z18, .ref z19]))] ++ va_pl L M_233) H_255 := hP
                            have hD : va_D A ([(za, .inr (13, [.int 0, .ref z1, .int (nI z2), .int (nI z3), .int z4, .int z5, .ref z6, .ref z7, .ref z8, .ref z9, .int (nI z10), .ref z11, .ref z12, .ref z13, .ref z14, .ref z15, .int (nI zgw36), .ref z17, .int z18, .ref z19]))] ++ va_pl L M_233) := hD
                            obtain ⟨f259, hM259⟩ := hW.open_14 i12
                            refine pg_iast hx hb hK hP hD hS i12.1 0 hM259 rfl (inbN zgw36 24 (by omega) (by omega)) dX13_bear_255 (fun H_260 locs hP hD hS => ?_)
                            obtain ⟨M_261, eM_261⟩ : ∃ M1 : Hp, M1 = va_up M_233 z12 (.inl (cy 14, 24, .inl (upd f259 ((nI zgw36) : Int32).toNatClampNeg r_256))) := ⟨_, rfl⟩
                            have hP : va_P D vwCl ([(za, .inr (13, [.int 0, .ref z1, .int (nI z2), .int (nI z3), .int z4, .int z5, .ref z6, .ref z7, .ref z8, .ref z9, .int (nI z10), .ref z11, .ref z12, .ref z13, .ref z14, .ref z15, .int (nI zgw36), .ref z17, .int z18, .ref z19]))] ++ va_pl L M_261) H_260 := by rw [eM_261]; exact hP
                            have hD : va_D A ([(za, .inr (13, [.int 0, .ref z1, .int (nI z2), .int (nI z3), .int z4, .int z5, .ref z6, .ref z7, .ref z8, .ref z9, .int (nI z10), .ref z11, .ref z12, .ref z13, .ref z14, .ref z15, .int (nI zgw36), .ref z17, .int z18, .ref z19]))] ++ va_pl L M_261) := by rw [eM_261]; exact hD
                            have hW : WOM cy K L M_261 := by rw [eM_261]; exact hW.up_14 i12 ⟨_, rfl⟩
                            have hF : fr K L [14, 15, 32] M M_261 := by rw [eM_261]; exact hF.up i12 (by decide)
                            have hM_262 : M_261 z12 = .inl (cy 14, 24, .inl (upd f259 ((nI zgw36) : Int32).toNatClampNeg r_256)) := by rw [eM_261]; exact va_up_self _ _ _
                            have hM_263 : M_261 z11 = .inl (cy 14, 24, .inl (f_239)) := by rw [eM_261, va_up_ne _ _ (i11.neT i12 (by decide))]; exact hM_234
                            have hM_264 : M_261 b11 = .inr (12, fs14) := by rw [eM_261, va_up_ne _ _ (hb_13.neT i12 (by decide))]; exact hM_235
                            have hM_265 : M_261 v109 = .inl (cy 14, 24, .inl (f110)) := by rw [eM_261, va_up_ne _ _ (hc109.neT i12 (by decide))]; exact hM_236
                            have hM_266 : M_261 v113 = .inl (cy 14, 24, .inl (f114)) := by rw [eM_261, va_up_ne _ _ (hc113.neT i12 (by decide))]; exact hM_237
                            have hM_267 : M_261 v168 = .inl (cy 16, 24, .inl (f169)) := by rw [eM_261, va_up_ne _ _ (hc168.neT i12 (by decide))]; exact hM_238
                            have hM_268 : M_261 v248 = .inl (cy 14, 24, .inl (f249)) := by rw [eM_261, va_up_ne _ _ (hc248.neT i12 (by decide))]; exact hM249
                            obtain ⟨f_269, ef_269⟩ : ∃ f : Nat → Int32, f = upd f259 ((nI zgw36) : Int32).toNatClampNeg r_256 := ⟨_, rfl⟩
                            rw [← ef_269] at hM_262
                            clear ef_269
                            refine lv_aload_n hx hb dX13_bear_256 rfl (lv_at hl 4 rfl) ?_
                            refine va_get (D := D) (ci := 13) (v := .ref z13) (C := RX13) (T := TX13) (N := 20) hx hb hg inG13 hown hK hP 0 rfl rfl 13 (by decide) (hg _ wd_789) (fun _ h9 => h9) rfl dX13_bear_257 ?_
                            refine lv_aload_n hx hb dX13_bear_260 rfl (lv_at hl 4 rfl) ?_
                            refine va_get (D := D) (ci := 13) (v := .int (nI zgw36)) (C := RX13) (T := TX13) (N := 20) hx hb hg inG13 hown hK hP 0 rfl rfl 16 (by decide) (hg _ wd_769) (fun _ h9 => h9) rfl dX13_bear_261 ?_
                            refine lv_lconst (v := 0) hx hb dX13_bear_264 (by decide) ?_
                            obtain ⟨f270, hM270⟩ := hW.open_15 i13
                            refine pg_last hx hb hK hP hD hS i13.1 1 hM270 rfl (inbN zgw36 24 (by omega) (by omega)) dX13_bear_265 (fun H_271 locs hP hD hS => ?_)
                            obtain ⟨M_272, eM_272⟩ : ∃ M1 : Hp, M1 = va_up M_261 z13 (.inl (cy 15, 24, .inr (.inl (vp_updL f270 ((nI zgw36) : Int32).toNatClampNeg 0)))) := ⟨_, rfl⟩
                            have hP : va_P D vwCl ([(za, .inr (13, [.int 0, .ref z1, .int (nI z2), .int (nI z3), .int z4, .int z5, .ref z6, .ref z7, .ref z8, .ref z9, .int (nI z10), .ref z11, .ref z12, .ref z13, .ref z14, .ref z15, .int (nI zgw36), .ref z17, .int z18, .ref z19]))] ++ va_pl L M_272) H_271 := by rw [eM_272]; exact hP
                            have hD : va_D A ([(za, .inr (13, [.int 0, .ref z1, .int (nI z2), .int (nI z3), .int z4, .int z5, .ref z6, .ref z7, .ref z8, .ref z9, .int (nI z10), .ref z11, .ref z12, .ref z13, .ref z14, .ref z15, .int (nI zgw36), .ref z17, .int z18, .ref z19]))] ++ va_pl L M_272) := by rw [eM_272]; exact hD
                            have hW : WOM cy K L M_272 := by rw [eM_272]; exact hW.up_15 i13 ⟨_, rfl⟩
                            have hF : fr K L [14, 15, 32] M M_272 := by rw [eM_272]; exact hF.up i13 (by decide)
                            have hM_273 : M_272 z13 = .inl (cy 15, 24, .inr (.inl (vp_updL f270 ((nI zgw36) : Int32).toNatClampNeg 0))) := by rw [eM_272]; exact va_up_self _ _ _
                            have hM_274 : M_272 z12 = .inl (cy 14, 24, .inl (f_269)) := by rw [eM_272, va_up_ne _ _ (i12.neT i13 (by decide))]; exact hM_262
                            have hM_275 : M_272 z11 = .inl (cy 14, 24, .inl (f_239)) := by rw [eM_272, va_up_ne _ _ (i11.neT i13 (by decide))]; exact hM_263
                            have hM_276 : M_272 b11 = .inr (12, fs14) := by rw [eM_272, va_up_ne _ _ (hb_13.neT i13 (by decide))]; exact hM_264
                            have hM_277 : M_272 v109 = .inl (cy 14, 24, .inl (f110)) := by rw [eM_272, va_up_ne _ _ (hc109.neT i13 (by decide))]; exact hM_265
                            have hM_278 : M_272 v113 = .inl (cy 14, 24, .inl (f114)) := by rw [eM_272, va_up_ne _ _ (hc113.neT i13 (by decide))]; exact hM_266
                            have hM_279 : M_272 v168 = .inl (cy 16, 24, .inl (f169)) := by rw [eM_272, va_up_ne _ _ (hc168.neT i13 (by decide))]; exact hM_267
                            have hM_280 : M_272 v248 = .inl (cy 14, 24, .inl (f249)) := by rw [eM_272, va_up_ne _ _ (hc248.neT i13 (by decide))]; exact hM_268
                            obtain ⟨f_281, ef_281⟩ : ∃ f : Nat → Int64, f = vp_updL f270 ((nI zgw36) : Int32).toNatClampNeg 0 := ⟨_, rfl⟩
                            rw [← ef_281] at hM_273
                            clear ef_281
                            refine lv_aload_n hx hb dX13_bear_266 rfl (lv_at hl 4 rfl) ?_
                            refine lv_dup hx hb dX13_bear_267 rfl ?_
                            refine va_get (D := D) (ci := 13) (v := .int (nI zgw36)) (C := RX13) (T := TX13) (N := 20) hx hb hg inG13 hown hK hP 0 rfl rfl 16 (by decide) (hg _ wd_769) (fun _ h9 => h9) rfl dX13_bear_268 ?_
                            refine lv_iconst (v := 1) hx hb dX13_bear_271 (by decide) ?_
                            refine lv_iadd hx hb dX13_bear_272 ?_
                            refine lv_topi (fun f_282 ef_282 => ?_)
                            obtain rfl : f_282 = (nI (zgw36 + 1)) := ef_282.trans (nI_add zgw36 1)
                            refine va_put (D := D) (ci := 13) (v := .int (nI (zgw36 + 1))) (ty := .int) (C := RX13) (T := TX13) (N := 20) hx hb hg inG13 tyX13 tyX13_ok nmX13 hown hK hP hD hS 0 rfl rfl 16 (by decide) (hg _ wd_769) (fun _ h9 => h9) rfl (by decide +kernel) rfl rfl (Nat.le_of_ble_eq_true rfl) dX13_bear_273 (fun H_283 locs hP hD hS => ?_)
                            have hP : va_P D vwCl ([(za, .inr (13, [.int 0, .ref z1, .int (nI z2), .int (nI z3), .int z4, .int z5, .ref z6, .ref z7, .ref z8, .ref z9, .int (nI z10), .ref z11, .ref z12, .ref z13, .ref z14, .ref z15, .int (nI (zgw36 + 1)), .ref z17, .int z18, .ref z19]))] ++ va_pl L M_272) H_283 := hP
                            have hD : va_D A ([(za, .inr (13, [.int 0, .ref z1, .int (nI z2), .int (nI z3), .int z4, .int z5, .ref z6, .ref z7, .ref z8, .ref z9, .int (nI z10), .ref z11, .ref z12, .ref z13, .ref z14, .ref z15, .int (nI (zgw36 + 1)), .ref z17, .int z18, .ref z19]))] ++ va_pl L M_272) := hD
                            refine lv_iinc (v := (nI (v5w36 + 1))) (lv' := [(5, .int (nI (v5w36 + 1))), (7, .int 0), (6, .int 1), (4, .ref b11), (0, .ref za), (1, .int k1), (2, .int k2), (3, .int k3)]) hx hb dX13_bear_276 hl (k := 2) rfl (nI_1 v5w36) (by decide) rfl (fun ls hl => ?_)
                            refine lv_goto (tgt := 82) hx hb dX13_bear_279 (by decide) ?_
                            exact ih_34 (v5w36 + 1) (zgw36 + 1) M_272 H_283 _ _ (by omega) hM_276 (by omega) (by omega) hW hF hP hD hS (lv_sub hl [0, 3, 4, 5, 6, 7] rfl)
                          · have hz := rfl (a := 0)
                            refine lv_iconst (v := 1) hx hb dX13_bear_181 (by decide) ?_
                            refine lv_goto (tgt := 186) hx hb dX13_bear_182 (by decide) ?_
                            refine lv_istore (lv' := [(7, .int 1), (6, .int 1), (5, .int (nI v5w36)), (4, .ref b11), (0, .ref za), (1, .int k1), (2, .int k2), (3, .int k3)]) hx hb dX13_bear_186 hl (by decide) rfl (fun ls hl => ?_)
                            refine lv_iload hx hb dX13_bear_188 (lv_at hl 1 rfl) ?_
                            refine lv_if_ne (tgt := 201) hx hb dX13_bear_190 (by decide) (fun _ => ?_) (fun c_284 => absurd c_284 (by decide))
                            refine lv_aload_n hx hb dX13_bear_201 rfl (lv_at hl 4 rfl) ?_
                            refine va_get (D := D) (ci := 13) (v := .ref z11) (C := RX13) (T := TX13) (N := 20) hx hb hg inG13 hown hK hP 0 rfl rfl 11 (by decide) (hg _ wd_764) (fun _ h9 => h9) rfl dX13_bear_202 ?_
                            refine lv_aload_n hx hb dX13_bear_205 rfl (lv_at hl 4 rfl) ?_
                            refine va_get (D := D) (ci := 13) (v := .int (nI zgw36)) (C := RX13) (T := TX13) (N := 20) hx hb hg inG13 hown hK hP 0 rfl rfl 16 (by decide) (hg _ wd_769) (fun _ h9 => h9) rfl dX13_bear_206 ?_
                            refine lv_iload hx hb dX13_bear_209 (lv_at hl 2 rfl) ?_
                            obtain ⟨f285, hM285, hf285⟩ := hW.open_32 i11
                            refine pg_iast hx hb hK hP hD hS i11.1 0 hM285 rfl (inbN zgw36 24 (by omega) (by omega)) dX13_bear_211 (fun H_286 locs hP hD hS => ?_)
                            obtain ⟨M_287, eM_287⟩ : ∃ M1 : Hp, M1 = va_up M_39 z11 (.inl (cy 14, 24, .inl (upd f285 ((nI zgw36) : Int32).toNatClampNeg (nI v5w36)))) := ⟨_, rfl⟩
                            have hP : va_P D vwCl ([(za, .inr (13, [.int 0, .ref z1, .int (nI z2), .int (nI z3), .int z4, .int z5, .ref z6, .ref z7, .ref z8, .ref z9, .int (nI z10), .ref z11, .ref z12, .ref z13, .ref z14, .ref z15, .int (nI zgw36), .ref z17, .int z18, .ref z19]))] ++ va_pl L M_287) H_286 := by rw [eM_287]; exact hP
                            have hD : va_D A ([(za, .inr (13, [.int 0, .ref z1, .int (nI z2), .int (nI z3), .int z4, .int z5, .ref z6, .ref z7, .ref z8, .ref z9, .int (nI z10), .ref z11, .ref z12, .ref z13, .ref z14, .ref z15, .int (nI zgw36), .ref z17, .int z18, .ref z19]))] ++ va_pl L M_287) := by rw [eM_287]; exact hD
                            have hW : WOM cy K L M_287 := by rw [eM_287]; exact hW.up_32 i11 ⟨_, rfl, (updP (P := fun z => ∃ c : Nat, c < 24 ∧ z = nI c) hf285 ⟨v5w36, by omega, rfl⟩)⟩
                            have hF : fr K L [14, 15, 32] M M_287 := by rw [eM_287]; exact hF.up i11 (by decide)
                            have hM_288 : M_287 z11 = .inl (cy 14, 24, .inl (upd f285 ((nI zgw36) : Int32).toNatClampNeg (nI v5w36))) := by rw [eM_287]; exact va_up_self _ _ _
                            have hM_289 : M_287 b11 = .inr (12, fs14) := by rw [eM_287, va_up_ne _ _ (hb_13.neT i11 (by decide))]; exact hM_41
                            have hM_290 : M_287 v109 = .inl (cy 14, 24, .inl (f110)) := by rw [eM_287, va_up_ne _ _ (hc109.neT i11 (by decide))]; exact hM110
                            have hM_291 : M_287 v113 = .inl (cy 14, 24, .inl (f114)) := by rw [eM_287, va_up_ne _ _ (hc113.neT i11 (by decide))]; exact hM114
                            have hM_292 : M_287 v168 = .inl (cy 16, 24, .inl (f169)) := by rw [eM_287, va_up_ne _ _ (hc168.neT i11 (by decide))]; exact hM169
                            have hf_294 : ∀ j, j < 24 → ∃ c : Nat, c < 24 ∧ (upd f285 ((nI zgw36) : Int32).toNatClampNeg (nI v5w36)) j = nI c := (updP (P := fun z => ∃ c : Nat, c < 24 ∧ z = nI c) hf285 ⟨v5w36, by omega, rfl⟩)
                            obtain ⟨f_293, ef_293⟩ : ∃ f : Nat → Int32, f = upd f285 ((nI zgw36) : Int32).toNatClampNeg (nI v5w36) := ⟨_, rfl⟩
                            rw [← ef_293] at hM_288 hf_294
                            clear ef_293
                            refine lv_aload_n hx hb dX13_bear_212 rfl (lv_at hl 4 rfl) ?_
                            refine va_get (D := D) (ci := 13) (v := .ref z12) (C := RX13) (T := TX13) (N := 20) hx hb hg inG13 hown hK hP 0 rfl rfl 12 (by decide) (hg _ wd_763) (fun _ h9 => h9) rfl dX13_bear_213 ?_
                            refine lv_aload_n hx hb dX13_bear_216 rfl (lv_at hl 4 rfl) ?_
                            refine va_get (D := D) (ci := 13) (v := .int (nI zgw36)) (C := RX13) (T := TX13) (N := 20) hx hb hg inG13 hown hK hP 0 rfl rfl 16 (by decide) (hg _ wd_769) (fun _ h9 => h9) rfl dX13_bear_217 ?_
                            refine lv_aload hx hb dX13_bear_220 (lv_at hl 3 rfl) ?_
                            refine lv_iload hx hb dX13_bear_222 (lv_at hl 1 rfl) ?_
                            refine lv_if_eq (tgt := 236) hx hb dX13_bear_224 (by decide) (fun c_295 => absurd c_295 (by decide)) (fun _ => ?_)
                            refine lv_aload hx hb dX13_bear_227 (lv_at hl 3 rfl) ?_
                            refine lv_iload_n hx hb dX13_bear_229 rfl (lv_at hl 6 rfl) ?_
                            have hPc : va_P D vwCl ([] ++ va_pl L M_287) H_286 := hP.part (cx := []) [] rfl
                            have hDc : va_D A ([] ++ va_pl L M_287) := hD.part (cx := []) [] (by decide) rfl
                            have hFc : ∀ q, va_A ([] ++ va_pl L M_287) H_286.size q → A q := pg_free hDc hS hA
                            refine va_calli (va_runV (As := [.int k2]) (rest := [.ref b11, .int (nI zgw36), .ref z12]) ⟨hx, hb, hml, hown, hg⟩ (r_ruleOnP l D cy K L M_287 H_286.size b11 k2  hW hb_13 (RLD.of hW (RLI.fr hW0 hRL hF (by decide) (by decide)) hb_13 hM_289 hv15 (by omega) hc15 hv24 (Int32.not_lt.mp c_25))) (cwV 1 hg (gV wd_815 wd_816 wd_817 wd_737 wd_818) rfl rfl rfl (by decide +kernel) ⟨(Nat.le_trans (Nat.le_of_ble_eq_true rfl) hRf), (Nat.le_trans (Nat.le_of_ble_eq_true rfl) hRl)⟩) ⟨PG.blind, pg_recv hK hP hb_13.1 hM_289 rfl, fun U hU hW => ⟨rfl, PG.at hPc hK hDc hN hU hW⟩⟩ rfl rfl hl.1 rfl (lv_room (Nat.le_of_ble_eq_true rfl)) dX13_bear_230 ⟨(Nat.le_trans (Nat.le_of_ble_eq_true rfl) hRc), (Nat.le_trans (Nat.le_of_ble_eq_true rfl) hRs)⟩) hS (fun q _ h => hFc q h) hFc (fun r_297 M_298 t H_296 locs ht hvm hw hB hz1 hk1 hS => ?_)
                            have hp_299 := hw
                            obtain ⟨hP1, hD1⟩ := hB
                            rw [ht] at hP1
                            obtain ⟨hP, hD⟩ := va_joinP (X := [(za, .inr (13, [.int 0, .ref z1, .int (nI z2), .int (nI z3), .int z4, .int z5, .ref z6, .ref z7, .ref z8, .ref z9, .int (nI z10), .ref z11, .ref z12, .ref z13, .ref z14, .ref z15, .int (nI zgw36), .ref z17, .int z18, .ref z19]))]) (cx := []) (wr := [(za, .inr (13, [.int 0, .ref z1, .int (nI z2), .int (nI z3), .int z4, .int z5, .ref z6, .ref z7, .ref z8, .ref z9, .int (nI z10), .ref z11, .ref z12, .ref z13, .ref z14, .ref z15, .int (nI zgw36), .ref z17, .int z18, .ref z19]))]) (rx := []) (pl := va_pl L M_287) (pl1 := va_pl L M_287) hP hD [] [0] rfl rfl (by decide) (by decide) hk1 hFc hP1 hD1
                            have hP : va_P D vwCl ([(za, .inr (13, [.int 0, .ref z1, .int (nI z2), .int (nI z3), .int z4, .int z5, .ref z6, .ref z7, .ref z8, .ref z9, .int (nI z10), .ref z11, .ref z12, .ref z13, .ref z14, .ref z15, .int (nI zgw36), .ref z17, .int z18, .ref z19]))] ++ va_pl L M_287) H_296 := hP
                            have hD : va_D A ([(za, .inr (13, [.int 0, .ref z1, .int (nI z2), .int (nI z3), .int z4, .int z5, .ref z6, .ref z7, .ref z8, .ref z9, .int (nI z10), .ref z11, .ref z12, .ref z13, .ref z14, .ref z15, .int (nI zgw36), .ref z17, .int z18, .ref z19]))] ++ va_pl L M_287) := hD
                            obtain ⟨j_300, rfl, c_301⟩ := hp_299
                            refine lv_goto (tgt := 243) hx hb dX13_bear_233 (by decide) ?_
                            refine lv_iconst (v := 3) hx hb dX13_bear_243 (by decide) ?_
                            refine lv_aload hx hb dX13_bear_244 (lv_at hl 3 rfl) ?_
                            obtain ⟨v302, hv302, hc302⟩ : ∃ v : Nat, fs14[20]? = some (.ref v : Value) ∧ isk K L v 31 24 := hl14 20 (by decide)
                            refine pg_getN (D := D) (ci := 12) (v := .ref v302) (C := RX12) (T := TX12) (N := 51) hx hb hg inG12 hown hK hP hb_13.1 hM_289 rfl 20 (by decide) (hN.use (Cond.fieldLinkNest RX13 110 RX12 "where" "[I" RX13) 29 rfl rfl) (fun _ h9 => h9) hv302 dX13_bear_246 ?_
                            refine lv_iload hx hb dX13_bear_249 (lv_at hl 2 rfl) ?_
                            obtain ⟨f303, hM303, hf303⟩ := hW.open_31 hc302
                            have hi_304 : vp_in (nI v5w36) 24 := (inbN v5w36 24 (by omega) (by omega))
                            refine pg_iald hx hb hK hP hc302.1 0 hM303 rfl hi_304 dX13_bear_251 ?_
                            have hp_305 := hf303 _ (vp_lt hi_304)
                            obtain ⟨c_306, hc_307, ec_308⟩ := hp_305
                            rw [ec_308]
                            have hPc : va_P D vwCl ([] ++ va_pl L M_287) H_296 := hP.part (cx := []) [] rfl
                            have hDc : va_D A ([] ++ va_pl L M_287) := hD.part (cx := []) [] (by decide) rfl
                            have hFc : ∀ q, va_A ([] ++ va_pl L M_287) H_296.size q → A q := pg_free hDc hS hA
                            refine va_calli (va_runV (As := [.int (nI j_300), .int 3, .int (nI c_306)]) (rest := [.int (nI zgw36), .ref z12]) ⟨hx, hb, hml, hown, hg⟩ (r_X12_term l D cy K L M_287 H_296.size b11 j_300 3 c_306  hW hb_13 c_301 (by omega) hc_307) (cwV 3 hg (gV wd_770 wd_771 wd_772 wd_737 wd_773) rfl rfl rfl (by decide +kernel) ⟨(Nat.le_trans (Nat.le_of_ble_eq_true rfl) hRf), (Nat.le_trans (Nat.le_of_ble_eq_true rfl) hRl)⟩) ⟨PG.blind, pg_recv hK hP hb_13.1 hM_289 rfl, fun U hU hW => ⟨rfl, PG.at hPc hK hDc hN hU hW⟩⟩ rfl rfl hl.1 rfl (lv_room (Nat.le_of_ble_eq_true rfl)) dX13_bear_252 ⟨(Nat.le_trans (Nat.le_of_ble_eq_true rfl) hRc), (Nat.le_trans (Nat.le_of_ble_eq_true rfl) hRs)⟩) hS (fun q _ h => hFc q h) hFc (fun r_310 M_311 t H_309 locs ht hvm hw hB hz1 hk1 hS => ?_)
                            have hp_312 := hw
                            obtain ⟨hP1, hD1⟩ := hB
                            rw [ht] at hP1
                            obtain ⟨hP, hD⟩ := va_joinP (X := [(za, .inr (13, [.int 0, .ref z1, .int (nI z2), .int (nI z3), .int z4, .int z5, .ref z6, .ref z7, .ref z8, .ref z9, .int (nI z10), .ref z11, .ref z12, .ref z13, .ref z14, .ref z15, .int (nI zgw36), .ref z17, .int z18, .ref z19]))]) (cx := []) (wr := [(za, .inr (13, [.int 0, .ref z1, .int (nI z2), .int (nI z3), .int z4, .int z5, .ref z6, .ref z7, .ref z8, .ref z9, .int (nI z10), .ref z11, .ref z12, .ref z13, .ref z14, .ref z15, .int (nI zgw36), .ref z17, .int z18, .ref z19]))]) (rx := []) (pl := va_pl L M_287) (pl1 := va_pl L M_287) hP hD [] [0] rfl rfl (by decide) (by decide) hk1 hFc hP1 hD1
                            have hP : va_P D vwCl ([(za, .inr (13, [.int 0, .ref z1, .int (nI z2), .int (nI z3), .int z4, .int z5, .ref z6, .ref z7, .ref z8, .ref z9, .int (nI z10), .ref z11, .ref z12, .ref z13, .ref z14, .ref z15, .int (nI zgw36), .ref z17, .int z18, .ref z19]))] ++ va_pl L M_287) H_309 := hP
                            have hD : va_D A ([(za, .inr (13, [.int 0, .ref z1, .int (nI z2), .int (nI z3), .int z4, .int z5, .ref z6, .ref z7, .ref z8, .ref z9, .int (nI z10), .ref z11, .ref z12, .ref z13, .ref z14, .ref z15, .int (nI zgw36), .ref z17, .int z18, .ref z19]))] ++ va_pl L M_287) := hD
                            obtain ⟨f313, hM313⟩ := hW.open_14 i12
                            refine pg_iast hx hb hK hP hD hS i12.1 0 hM313 rfl (inbN zgw36 24 (by omega) (by omega)) dX13_bear_255 (fun H_314 locs hP hD hS => ?_)
                            obtain ⟨M_315, eM_315⟩ : ∃ M1 : Hp, M1 = va_up M_287 z12 (.inl (cy 14, 24, .inl (upd f313 ((nI zgw36) : Int32).toNatClampNeg r_310))) := ⟨_, rfl⟩
                            have hP : va_P D vwCl ([(za, .inr (13, [.int 0, .ref z1, .int (nI z2), .int (nI z3), .int z4, .int z5, .ref z6, .ref z7, .ref z8, .ref z9, .int (nI z10), .ref z11, .ref z12, .ref z13, .ref z14, .ref z15, .int (nI zgw36), .ref z17, .int z18, .ref z19]))] ++ va_pl L M_315) H_314 := by rw [eM_315]; exact hP
                            have hD : va_D A ([(za, .inr (13, [.int 0, .ref z1, .int (nI z2), .int (nI z3), .int z4, .int z5, .ref z6, .ref z7, .ref z8, .ref z9, .int (nI z10), .ref z11, .ref z12, .ref z13, .ref z14, .ref z15, .int (nI zgw36), .ref z17, .int z18, .ref z19]))] ++ va_pl L M_315) := by rw [eM_315]; exact hD
                            have hW : WOM cy K L M_315 := by rw [eM_315]; exact hW.up_14 i12 ⟨_, rfl⟩
                            have hF : fr K L [14, 15, 32] M M_315 := by rw [eM_315]; exact hF.up i12 (by decide)
                            have hM_316 : M_315 z12 = .inl (cy 14, 24, .inl (upd f313 ((nI zgw36) : Int32).toNatClampNeg r_310)) := by rw [eM_315]; exact va_up_self _ _ _
                            have hM_317 : M_315 z11 = .inl (cy 14, 24, .inl (f_293)) := by rw [eM_315, va_up_ne _ _ (i11.neT i12 (by decide))]; exact hM_288
                            have hM_318 : M_315 b11 = .inr (12, fs14) := by rw [eM_315, va_up_ne _ _ (hb_13.neT i12 (by decide))]; exact hM_289
                            have hM_319 : M_315 v109 = .inl (cy 14, 24, .inl (f110)) := by rw [eM_315, va_up_ne _ _ (hc109.neT i12 (by decide))]; exact hM_290
                            have hM_320 : M_315 v113 = .inl (cy 14, 24, .inl (f114)) := by rw [eM_315, va_up_ne _ _ (hc113.neT i12 (by decide))]; exact hM_291
                            have hM_321 : M_315 v168 = .inl (cy 16, 24, .inl (f169)) := by rw [eM_315, va_up_ne _ _ (hc168.neT i12 (by decide))]; exact hM_292
                            have hM_322 : M_315 v302 = .inl (cy 14, 24, .inl (f303)) := by rw [eM_315, va_up_ne _ _ (hc302.neT i12 (by decide))]; exact hM303
                            obtain ⟨f_323, ef_323⟩ : ∃ f : Nat → Int32, f = upd f313 ((nI zgw36) : Int32).toNatClampNeg r_310 := ⟨_, rfl⟩
                            rw [← ef_323] at hM_316
                            clear ef_323
                            refine lv_aload_n hx hb dX13_bear_256 rfl (lv_at hl 4 rfl) ?_
                            refine va_get (D := D) (ci := 13) (v := .ref z13) (C := RX13) (T := TX13) (N := 20) hx hb hg inG13 hown hK hP 0 rfl rfl 13 (by decide) (hg _ wd_789) (fun _ h9 => h9) rfl dX13_bear_257 ?_
                            refine lv_aload_n hx hb dX13_bear_260 rfl (lv_at hl 4 rfl) ?_
                            refine va_get (D := D) (ci := 13) (v := .int (nI zgw36)) (C := RX13) (T := TX13) (N := 20) hx hb hg inG13 hown hK hP 0 rfl rfl 16 (by decide) (hg _ wd_769) (fun _ h9 => h9) rfl dX13_bear_261 ?_
                            refine lv_lconst (v := 0) hx hb dX13_bear_264 (by decide) ?_
                            obtain ⟨f324, hM324⟩ := hW.open_15 i13
                            refine pg_last hx hb hK hP hD hS i13.1 1 hM324 rfl (inbN zgw36 24 (by omega) (by omega)) dX13_bear_265 (fun H_325 locs hP hD hS => ?_)
                            obtain ⟨M_326, eM_326⟩ : ∃ M1 : Hp, M1 = va_up M_315 z13 (.inl (cy 15, 24, .inr (.inl (vp_updL f324 ((nI zgw36) : Int32).toNatClampNeg 0)))) := ⟨_, rfl⟩
                            have hP : va_P D vwCl ([(za, .inr (13, [.int 0, .ref z1, .int (nI z2), .int (nI z3), .int z4, .int z5, .ref z6, .ref z7, .ref z8, .ref z9, .int (nI z10), .ref z11, .ref z12, .ref z13, .ref z14, .ref z15, .int (nI zgw36), .ref z17, .int z18, .ref z19]))] ++ va_pl L M_326) H_325 := by rw [eM_326]; exact hP
                            have hD : va_D A ([(za, .inr (13, [.int 0, .ref z1, .int (nI z2), .int (nI z3), .int z4, .int z5, .ref z6, .ref z7, .ref z8, .ref z9, .int (nI z10), .ref z11, .ref z12, .ref z13, .ref z14, .ref z15, .int (nI zgw36), .ref z17, .int z18, .ref z19]))] ++ va_pl L M_326) := by rw [eM_326]; exact hD
                            have hW : WOM cy K L M_326 := by rw [eM_326]; exact hW.up_15 i13 ⟨_, rfl⟩
                            have hF : fr K L [14, 15, 32] M M_326 := by rw [eM_326]; exact hF.up i13 (by decide)
                            have hM_327 : M_326 z13 = .inl (cy 15, 24, .inr (.inl (vp_updL f324 ((nI zgw36) : Int32).toNatClampNeg 0))) := by rw [eM_326]; exact va_up_self _ _ _
                            have hM_328 : M_326 z12 = .inl (cy 14, 24, .inl (f_323)) := by rw [eM_326, va_up_ne _ _ (i12.neT i13 (by decide))]; exact hM_316
                            have hM_329 : M_326 z11 = .inl (cy 14, 24, .inl (f_293)) := by rw [eM_326, va_up_ne _ _ (i11.neT i13 (by decide))]; exact hM_317
                            have hM_330 : M_326 b11 = .inr (12, fs14) := by rw [eM_326, va_up_ne _ _ (hb_13.neT i13 (by decide))]; exact hM_318
                            have hM_331 : M_326 v109 = .inl (cy 14, 24, .inl (f110)) := by rw [eM_326, va_up_ne _ _ (hc109.neT i13 (by decide))]; exact hM_319
                            have hM_332 : M_326 v113 = .inl (cy 14, 24, .inl (f114)) := by rw [eM_326, va_up_ne _ _ (hc113.neT i13 (by decide))]; exact hM_320
                            have hM_333 : M_326 v168 = .inl (cy 16, 24, .inl (f169)) := by rw [eM_326, va_up_ne _ _ (hc168.neT i13 (by decide))]; exact hM_321
                            have hM_334 : M_326 v302 = .inl (cy 14, 24, .inl (f303)) := by rw [eM_326, va_up_ne _ _ (hc302.neT i13 (by decide))]; exact hM_322
                            obtain ⟨f_335, ef_335⟩ : ∃ f : Nat → Int64, f = vp_updL f324 ((nI zgw36) : Int32).toNatClampNeg 0 := ⟨_, rfl⟩
                            rw [← ef_335] at hM_327
                            clear ef_335
                            refine lv_aload_n hx hb dX13_bear_266 rfl (lv_at hl 4 rfl) ?_
                            refine lv_dup hx hb dX13_bear_267 rfl ?_
                            refine va_get (D := D) (ci := 13) (v := .int (nI zgw36)) (C := RX13) (T := TX13) (N := 20) hx hb hg inG13 hown hK hP 0 rfl rfl 16 (by decide) (hg _ wd_769) (fun _ h9 => h9) rfl dX13_bear_268 ?_
                            refine lv_iconst (v := 1) hx hb dX13_bear_271 (by decide) ?_
                            refine lv_iadd hx hb dX13_bear_272 ?_
                            refine lv_topi (fun f_336 ef_336 => ?_)
                            obtain rfl : f_336 = (nI (zgw36 + 1)) := ef_336.trans (nI_add zgw36 1)
                            refine va_put (D := D) (ci := 13) (v := .int (nI (zgw36 + 1))) (ty := .int) (C := RX13) (T := TX13) (N := 20) hx hb hg inG13 tyX13 tyX13_ok nmX13 hown hK hP hD hS 0 rfl rfl 16 (by decide) (hg _ wd_769) (fun _ h9 => h9) rfl (by decide +kernel) rfl rfl (Nat.le_of_ble_eq_true rfl) dX13_bear_273 (fun H_337 locs hP hD hS => ?_)
                            have hP : va_P D vwCl ([(za, .inr (13, [.int 0, .ref z1, .int (nI z2), .int (nI z3), .int z4, .int z5, .ref z6, .ref z7, .ref z8, .ref z9, .int (nI z10), .ref z11, .ref z12, .ref z13, .ref z14, .ref z15, .int (nI (zgw36 + 1)), .ref z17, .int z18, .ref z19]))] ++ va_pl L M_326) H_337 := hP
                            have hD : va_D A ([(za, .inr (13, [.int 0, .ref z1, .int (nI z2), .int (nI z3), .int z4, .int z5, .ref z6, .ref z7, .ref z8, .ref z9, .int (nI z10), .ref z11, .ref z12, .ref z13, .ref z14, .ref z15, .int (nI (zgw36 + 1)), .ref z17, .int z18, .ref z19]))] ++ va_pl L M_326) := hD
                            refine lv_iinc (v := (nI (v5w36 + 1))) (lv' := [(5, .int (nI (v5w36 + 1))), (7, .int 1), (6, .int 1), (4, .ref b11), (0, .ref za), (1, .int k1), (2, .int k2), (3, .int k3)]) hx hb dX13_bear_276 hl (k := 2) rfl (nI_1 v5w36) (by decide) rfl (fun ls hl => ?_)
                            refine lv_goto (tgt := 82) hx hb dX13_bear_279 (by decide) ?_
                            exact ih_34 (v5w36 + 1) (zgw36 + 1) M_326 H_337 _ _ (by omega) hM_330 (by omega) (by omega) hW hF hP hD hS (lv_sub hl [0, 3, 4, 5, 6, 7] rfl)
                    · have hz := rfl (a := 0)
                      refine lv_aload hx hb dX13_bear_115 (lv_at hl 1 rfl) ?_
                      refine lv_aload hx hb dX13_bear_117 (lv_at hl 1 rfl) ?_
                      refine pg_getN (D := D) (ci := 12) (v := .ref v109) (C := RX12) (T := TX12) (N := 51) hx hb hg inG12 hown hK hP hb_13.1 hM_41 rfl 22 (by decide) (hN.use (Cond.fieldLinkNest RX13 95 RX12 "ended" "[I" RX13) 31 rfl rfl) (fun _ h9 => h9) hv109 dX13_bear_119 ?_
                      refine lv_iload hx hb dX13_bear_122 (lv_at hl 0 rfl) ?_
                      refine pg_iald hx hb hK hP hc109.1 0 hM110 rfl (inbN v5w36 24 (by omega) (by omega)) dX13_bear_124 ?_
                      refine lv_topi (fun f_338 ef_338 => ?_)
                      have hPc : va_P D vwCl ([] ++ va_pl L M_39) H_104 := hP.part (cx := []) [] rfl
                      have hDc : va_D A ([] ++ va_pl L M_39) := hD.part (cx := []) [] (by decide) rfl
                      have hFc : ∀ q, va_A ([] ++ va_pl L M_39) H_104.size q → A q := pg_free hDc hS hA
                      refine va_calli (va_runS (As := [.ref b11, .int f_338]) (rest := []) ⟨hx, hb, hml, hown, hg⟩ (r_X13_since l D cy K L M_39 H_104.size b11 f_338  hW hb_13) (va_cwS 2 hg (gS wd_819 wd_820 wd_717 wd_821) rfl rfl rfl (by decide +kernel) ⟨(Nat.le_trans (Nat.le_of_ble_eq_true rfl) hRf), (Nat.le_trans (Nat.le_of_ble_eq_true rfl) hRl)⟩) ⟨PG.blind, fun U hU hW => ⟨rfl, PG.at hPc hK hDc hN hU hW⟩⟩ rfl rfl hl.1 rfl (lv_room (Nat.le_of_ble_eq_true rfl)) dX13_bear_125 ⟨(Nat.le_trans (Nat.le_of_ble_eq_true rfl) hRc), (Nat.le_trans (Nat.le_of_ble_eq_true rfl) hRs)⟩) hS (fun q _ h => hFc q h) hFc (fun r_340 M_341 t H_339 locs ht hvm hw hB hz1 hk1 hS => ?_)
                      have hp_342 := hw
                      obtain ⟨hP1, hD1⟩ := hB
                      rw [ht] at hP1
                      obtain ⟨hP, hD⟩ := va_joinP (X := [(za, .inr (13, [.int 0, .ref z1, .int (nI z2), .int (nI z3), .int z4, .int z5, .ref z6, .ref z7, .ref z8, .ref z9, .int (nI z10), .ref z11, .ref z12, .ref z13, .ref z14, .ref z15, .int (nI zgw36), .ref z17, .int z18, .ref z19]))]) (cx := []) (wr := [(za, .inr (13, [.int 0, .ref z1, .int (nI z2), .int (nI z3), .int z4, .int z5, .ref z6, .ref z7, .ref z8, .ref z9, .int (nI z10), .ref z11, .ref z12, .ref z13, .ref z14, .ref z15, .int (nI zgw36), .ref z17, .int z18, .ref z19]))]) (rx := []) (pl := va_pl L M_39) (pl1 := va_pl L M_39) hP hD [] [0] rfl rfl (by decide) (by decide) hk1 hFc hP1 hD1
                      have hP : va_P D vwCl ([(za, .inr (13, [.int 0, .ref z1, .int (nI z2), .int (nI z3), .int z4, .int z5, .ref z6, .ref z7, .ref z8, .ref z9, .int (nI z10), .ref z11, .ref z12, .ref z13, .ref z14, .ref z15, .int (nI zgw36), .ref z17, .int z18, .ref z19]))] ++ va_pl L M_39) H_339 := hP
                      have hD : va_D A ([(za, .inr (13, [.int 0, .ref z1, .int (nI z2), .int (nI z3), .int z4, .int z5, .ref z6, .ref z7, .ref z8, .ref z9, .int (nI z10), .ref z11, .ref z12, .ref z13, .ref z14, .ref z15, .int (nI zgw36), .ref z17, .int z18, .ref z19]))] ++ va_pl L M_39) := hD
                      refine lv_aload hx hb dX13_bear_128 (lv_at hl 1 rfl) ?_
                      obtain ⟨v343, hv343, hc343⟩ : ∃ v : Nat, fs14[24]? = some (.ref v : Value) ∧ isk K L v 76 24 := hl14 24 (by decide)
                      refine pg_getN (D := D) (ci := 12) (v := .ref v343) (C := RX12) (T := TX12) (N := 51) hx hb hg inG12 hown hK hP hb_13.1 hM_41 rfl 24 (by decide) (hN.use (Cond.fieldLinkNest RX13 118 RX12 "bears" "[I" RX13) 33 rfl rfl) (fun _ h9 => h9) hv343 dX13_bear_130 ?_
                      refine lv_iload hx hb dX13_bear_133 (lv_at hl 0 rfl) ?_
                      obtain ⟨f344, hM344⟩ := hW.open_76 hc343
                      refine pg_iald hx hb hK hP hc343.1 0 hM344 rfl (inbN v5w36 24 (by omega) (by omega)) dX13_bear_135 ?_
                      refine lv_topi (fun f_345 ef_345 => ?_)
                      refine lv_icmp_ge (tgt := 143) hx hb dX13_bear_136 (by decide) (fun c_346 => ?_) (fun c_346 => ?_)
                      · have hz := rfl (a := 0)
                        refine lv_iconst (v := 0) hx hb dX13_bear_143 (by decide) ?_
                        refine lv_istore (lv' := [(6, .int 0), (5, .int (nI v5w36)), (4, .ref b11), (0, .ref za), (1, .int k1), (2, .int k2), (3, .int k3)]) hx hb dX13_bear_144 hl (by decide) rfl (fun ls hl => ?_)
                        refine lv_aload hx hb dX13_bear_146 (lv_at hl 2 rfl) ?_
                        obtain ⟨v347, hv347, hc347⟩ : ∃ v : Nat, fs14[21]? = some (.ref v : Value) ∧ isk K L v 75 24 := hl14 21 (by decide)
                        refine pg_getN (D := D) (ci := 12) (v := .ref v347) (C := RX12) (T := TX12) (N := 51) hx hb hg inG12 hown hK hP hb_13.1 hM_41 rfl 21 (by decide) (hN.use (Cond.fieldLinkNest RX13 112 RX12 "begin" "[I" RX13) 30 rfl rfl) (fun _ h9 => h9) hv347 dX13_bear_148 ?_
                        refine lv_iload hx hb dX13_bear_151 (lv_at hl 1 rfl) ?_
                        obtain ⟨f348, hM348⟩ := hW.open_75 hc347
                        refine pg_iald hx hb hK hP hc347.1 0 hM348 rfl (inbN v5w36 24 (by omega) (by omega)) dX13_bear_153 ?_
                        refine lv_topi (fun f_349 ef_349 => ?_)
                        refine lv_iload_n hx hb dX13_bear_154 rfl (lv_at hl 5 rfl) ?_
                        refine lv_icmp_le (tgt := 185) hx hb dX13_bear_155 (by decide) (fun c_350 => ?_) (fun c_350 => ?_)
                        · have hz := rfl (a := 0)
                          refine lv_iconst (v := 0) hx hb dX13_bear_185 (by decide) ?_
                          refine lv_istore (lv' := [(7, .int 0), (6, .int 0), (5, .int (nI v5w36)), (4, .ref b11), (0, .ref za), (1, .int k1), (2, .int k2), (3, .int k3)]) hx hb dX13_bear_186 hl (by decide) rfl (fun ls hl => ?_)
                          refine lv_iload hx hb dX13_bear_188 (lv_at hl 1 rfl) ?_
                          refine lv_if_ne (tgt := 201) hx hb dX13_bear_190 (by decide) (fun c_351 => absurd c_351 (by decide)) (fun _ => ?_)
                          refine lv_iload hx hb dX13_bear_193 (lv_at hl 0 rfl) ?_
                          refine lv_if_ne (tgt := 201) hx hb dX13_bear_195 (by decide) (fun c_352 => absurd c_352 (by decide)) (fun _ => ?_)
                          refine lv_goto (tgt := 276) hx hb dX13_bear_198 (by decide) ?_
                          refine lv_iinc (v := (nI (v5w36 + 1))) (lv' := [(5, .int (nI (v5w36 + 1))), (7, .int 0), (6, .int 0), (4, .ref b11), (0, .ref za), (1, .int k1), (2, .int k2), (3, .int k3)]) hx hb dX13_bear_276 hl (k := 2) rfl (nI_1 v5w36) (by decide) rfl (fun ls hl => ?_)
                          refine lv_goto (tgt := 82) hx hb dX13_bear_279 (by decide) ?_
                          exact ih_34 (v5w36 + 1) zgw36 M_39 H_339 _ _ (by omega) hM_41 (by omega) (by omega) hW hF hP hD hS (lv_sub hl [0, 3, 4, 5, 6, 7] rfl)
                        · have hz := rfl (a := 0)
                          refine lv_aload hx hb dX13_bear_158 (lv_at hl 2 rfl) ?_
                          obtain ⟨v353, hv353, hc353⟩ : ∃ v : Nat, fs14[26]? = some (.ref v : Value) ∧ isk K L v 16 24 := hl14 26 (by decide)
                          refine pg_getN (D := D) (ci := 12) (v := .ref v353) (C := RX12) (T := TX12) (N := 51) hx hb hg inG12 hown hK hP hb_13.1 hM_41 rfl 26 (by decide) (hN.use (Cond.fieldLinkNest RX13 124 RX12 "word" "[Z" RX13) 35 rfl rfl) (fun _ h9 => h9) hv353 dX13_bear_160 ?_
                          refine lv_iload hx hb dX13_bear_163 (lv_at hl 1 rfl) ?_
                          obtain ⟨f354, hM354, hf354⟩ := hW.open_16 hc353
                          have hi_355 : vp_in (nI v5w36) 24 := (inbN v5w36 24 (by omega) (by omega))
                          refine pg_zald hx hb hK hP hc353.1 2 hM354 rfl hi_355 dX13_bear_165 ?_
                          rcases hf354 _ (vp_lt hi_355) with ec_356 | ec_356
                          · rw [ec_356]
                            refine lv_if_eq (tgt := 185) hx hb dX13_bear_166 (by decide) (fun _ => ?_) (fun c_357 => absurd c_357 (by decide))
                            refine lv_iconst (v := 0) hx hb dX13_bear_185 (by decide) ?_
                            refine lv_istore (lv' := [(7, .int 0), (6, .int 0), (5, .int (nI v5w36)), (4, .ref b11), (0, .ref za), (1, .int k1), (2, .int k2), (3, .int k3)]) hx hb dX13_bear_186 hl (by decide) rfl (fun ls hl => ?_)
                            refine lv_iload hx hb dX13_bear_188 (lv_at hl 1 rfl) ?_
                            refine lv_if_ne (tgt := 201) hx hb dX13_bear_190 (by decide) (fun c_358 => absurd c_358 (by decide)) (fun _ => ?_)
                            refine lv_iload hx hb dX13_bear_193 (lv_at hl 0 rfl) ?_
                            refine lv_if_ne (tgt := 201) hx hb dX13_bear_195 (by decide) (fun c_359 => absurd c_359 (by decide)) (fun _ => ?_)
                            refine lv_goto (tgt := 276) hx hb dX13_bear_198 (by decide) ?_
                            refine lv_iinc (v := (nI (v5w36 + 1))) (lv' := [(5, .int (nI (v5w36 + 1))), (7, .int 0), (6, .int 0), (4, .ref b11), (0, .ref za), (1, .int k1), (2, .int k2), (3, .int k3)]) hx hb dX13_bear_276 hl (k := 2) rfl (nI_1 v5w36) (by decide) rfl (fun ls hl => ?_)
                            refine lv_goto (tgt := 82) hx hb dX13_bear_279 (by decide) ?_
                            exact ih_34 (v5w36 + 1) zgw36 M_39 H_339 _ _ (by omega) hM_41 (by omega) (by omega) hW hF hP hD hS (lv_sub hl [0, 3, 4, 5, 6, 7] rfl)
                          · rw [ec_356]
                            refine lv_if_eq (tgt := 185) hx hb dX13_bear_166 (by decide) (fun c_360 => absurd c_360 (by decide)) (fun _ => ?_)
                            refine lv_aload hx hb dX13_bear_169 (lv_at hl 2 rfl) ?_
                            refine pg_getN (D := D) (ci := 12) (v := .ref v109) (C := RX12) (T := TX12) (N := 51) hx hb hg inG12 hown hK hP hb_13.1 hM_41 rfl 22 (by decide) (hN.use (Cond.fieldLinkNest RX13 95 RX12 "ended" "[I" RX13) 31 rfl rfl) (fun _ h9 => h9) hv109 dX13_bear_171 ?_
                            refine lv_iload hx hb dX13_bear_174 (lv_at hl 1 rfl) ?_
                            refine pg_iald hx hb hK hP hc109.1 0 hM110 rfl (inbN v5w36 24 (by omega) (by omega)) dX13_bear_176 ?_
                            refine lv_topi (fun f_361 ef_361 => ?_)
                            refine lv_iconst (v := (-1)) hx hb dX13_bear_177 (by decide) ?_
                            refine lv_icmp_ne (tgt := 185) hx hb dX13_bear_178 (by decide) (fun c_362 => ?_) (fun c_362 => ?_)
                            · have hz := rfl (a := 0)
                              refine lv_iconst (v := 0) hx hb dX13_bear_185 (by decide) ?_
                              refine lv_istore (lv' := [(7, .int 0), (6, .int 0), (5, .int (nI v5w36)), (4, .ref b11), (0, .ref za), (1, .int k1), (2, .int k2), (3, .int k3)]) hx hb dX13_bear_186 hl (by decide) rfl (fun ls hl => ?_)
                              refine lv_iload hx hb dX13_bear_188 (lv_at hl 1 rfl) ?_
                              refine lv_if_ne (tgt := 201) hx hb dX13_bear_190 (by decide) (fun c_363 => absurd c_363 (by decide)) (fun _ => ?_)
                              refine lv_iload hx hb dX13_bear_193 (lv_at hl 0 rfl) ?_
                              refine lv_if_ne (tgt := 201) hx hb dX13_bear_195 (by decide) (fun c_364 => absurd c_364 (by decide)) (fun _ => ?_)
                              refine lv_goto (tgt := 276) hx hb dX13_bear_198 (by decide) ?_
                              refine lv_iinc (v := (nI (v5w36 + 1))) (lv' := [(5, .int (nI (v5w36 + 1))), (7, .int 0), (6, .int 0), (4, .ref b11), (0, .ref za), (1, .int k1), (2, .int k2), (3, .int k3)]) hx hb dX13_bear_276 hl (k := 2) rfl (nI_1 v5w36) (by decide) rfl (fun ls hl => ?_)
                              refine lv_goto (tgt := 82) hx hb dX13_bear_279 (by decide) ?_
                              exact ih_34 (v5w36 + 1) zgw36 M_39 H_339 _ _ (by omega) hM_41 (by omega) (by omega) hW hF hP hD hS (lv_sub hl [0, 3, 4, 5, 6, 7] rfl)
                            · have hz := rfl (a := 0)
                              refine lv_iconst (v := 1) hx hb dX13_bear_181 (by decide) ?_
                              refine lv_goto (tgt := 186) hx hb dX13_bear_182 (by decide) ?_
                              refine lv_istore (lv' := [(7, .int 1), (6, .int 0), (5, .int (nI v5w36)), (4, .ref b11), (0, .ref za), (1, .int k1), (2, .int k2), (3, .int k3)]) hx hb dX13_bear_186 hl (by decide) rfl (fun ls hl => ?_)
                              refine lv_iload hx hb dX13_bear_188 (lv_at hl 1 rfl) ?_
                              refine lv_if_ne (tgt := 201) hx hb dX13_bear_190 (by decide) (fun c_365 => absurd c_365 (by decide)) (fun _ => ?_)
                              refine lv_iload hx hb dX13_bear_193 (lv_at hl 0 rfl) ?_
                              refine lv_if_ne (tgt := 201) hx hb dX13_bear_195 (by decide) (fun _ => ?_) (fun c_366 => absurd c_366 (by decide))
                              refine lv_aload_n hx hb dX13_bear_201 rfl (lv_at hl 4 rfl) ?_
                              refine va_get (D := D) (ci := 13) (v := .ref z11) (C := RX13) (T := TX13) (N := 20) hx hb hg inG13 hown hK hP 0 rfl rfl 11 (by decide) (hg _ wd_764) (fun _ h9 => h9) rfl dX13_bear_202 ?_
                              refine lv_aload_n hx hb dX13_bear_205 rfl (lv_at hl 4 rfl) ?_
                              refine va_get (D := D) (ci := 13) (v := .int (nI zgw36)) (C := RX13) (T := TX13) (N := 20) hx hb hg inG13 hown hK hP 0 rfl rfl 16 (by decide) (hg _ wd_769) (fun _ h9 => h9) rfl dX13_bear_206 ?_
                              refine lv_iload hx hb dX13_bear_209 (lv_at hl 2 rfl) ?_
                              obtain ⟨f367, hM367, hf367⟩ := hW.open_32 i11
                              refine pg_iast hx hb hK hP hD hS i11.1 0 hM367 rfl (inbN zgw36 24 (by omega) (by omega)) dX13_bear_211 (fun H_368 locs hP hD hS => ?_)
                              obtain ⟨M_369, eM_369⟩ : ∃ M1 : Hp, M1 = va_up M_39 z11 (.inl (cy 14, 24, .inl (upd f367 ((nI zgw36) : Int32).toNatClampNeg (nI v5w36)))) := ⟨_, rfl⟩
                              have hP : va_P D vwCl ([(za, .inr (13, [.int 0, .ref z1, .int (nI z2), .int (nI z3), .int z4, .int z5, .ref z6, .ref z7, .ref z8, .ref z9, .int (nI z10), .ref z11, .ref z12, .ref z13, .ref z14, .ref z15, .int (nI zgw36), .ref z17, .int z18, .ref z19]))] ++ va_pl L M_369) H_368 := by rw [eM_369]; exact hP
                              have hD : va_D A ([(za, .inr (13, [.int 0, .ref z1, .int (nI z2), .int (nI z3), .int z4, .int z5, .ref z6, .ref z7, .ref z8, .ref z9, .int (nI z10), .ref z11, .ref z12, .ref z13, .ref z14, .ref z15, .int (nI zgw36), .ref z17, .int z18, .ref z19]))] ++ va_pl L M_369) := by rw [eM_369]; exact hD
                              have hW : WOM cy K L M_369 := by rw [eM_369]; exact hW.up_32 i11 ⟨_, rfl, (updP (P := fun z => ∃ c : Nat, c < 24 ∧ z = nI c) hf367 ⟨v5w36, by omega, rfl⟩)⟩
                              have hF : fr K L [14, 15, 32] M M_369 := by rw [eM_369]; exact hF.up i11 (by decide)
                              have hM_370 : M_369 z11 = .inl (cy 14, 24, .inl (upd f367 ((nI zgw36) : Int32).toNatClampNeg (nI v5w36))) := by rw [eM_369]; exact va_up_self _ _ _
                              have hM_371 : M_369 b11 = .inr (12, fs14) := by rw [eM_369, va_up_ne _ _ (hb_13.neT i11 (by decide))]; exact hM_41
                              have hM_372 : M_369 v109 = .inl (cy 14, 24, .inl (f110)) := by rw [eM_369, va_up_ne _ _ (hc109.neT i11 (by decide))]; exact hM110
                              have hM_373 : M_369 v343 = .inl (cy 14, 24, .inl (f344)) := by rw [eM_369, va_up_ne _ _ (hc343.neT i11 (by decide))]; exact hM344
                              have hM_374 : M_369 v347 = .inl (cy 14, 24, .inl (f348)) := by rw [eM_369, va_up_ne _ _ (hc347.neT i11 (by decide))]; exact hM348
                              have hM_375 : M_369 v353 = .inl (cy 16, 24, .inl (f354)) := by rw [eM_369, va_up_ne _ _ (hc353.neT i11 (by decide))]; exact hM354
                              have hf_377 : ∀ j, j < 24 → ∃ c : Nat, c < 24 ∧ (upd f367 ((nI zgw36) : Int32).toNatClampNeg (nI v5w36)) j = nI c := (updP (P := fun z => ∃ c : Nat, c < 24 ∧ z = nI c) hf367 ⟨v5w36, by omega, rfl⟩)
                              obtain ⟨f_376, ef_376⟩ : ∃ f : Nat → Int32, f = upd f367 ((nI zgw36) : Int32).toNatClampNeg (nI v5w36) := ⟨_, rfl⟩
                              rw [← ef_376] at hM_370 hf_377
                              clear ef_376
                              refine lv_aload_n hx hb dX13_bear_212 rfl (lv_at hl 4 rfl) ?_
                              refine va_get (D := D) (ci := 13) (v := .ref z12) (C := RX13) (T := TX13) (N := 20) hx hb hg inG13 hown hK hP 0 rfl rfl 12 (by decide) (hg _ wd_763) (fun _ h9 => h9) rfl dX13_bear_213 ?_
                              refine lv_aload_n hx hb dX13_bear_216 rfl (lv_at hl 4 rfl) ?_
                              refine va_get (D := D) (ci := 13) (v := .int (nI zgw36)) (C := RX13) (T := TX13) (N := 20) hx hb hg inG13 hown hK hP 0 rfl rfl 16 (by decide) (hg _ wd_769) (fun _ h9 => h9) rfl dX13_bear_217 ?_
                              refine lv_aload hx hb dX13_bear_220 (lv_at hl 3 rfl) ?_
                              refine lv_iload hx hb dX13_bear_222 (lv_at hl 1 rfl) ?_
                              refine lv_if_eq (tgt := 236) hx hb dX13_bear_224 (by decide) (fun _ => ?_) (fun c_378 => absurd c_378 (by decide))
                              refine lv_aload hx hb dX13_bear_236 (lv_at hl 3 rfl) ?_
                              refine pg_getN (D := D) (ci := 12) (v := .int (nI v15)) (C := RX12) (T := TX12) (N := 51) hx hb hg inG12 hown hK hP hb_13.1 hM_371 rfl 11 (by decide) (hN.use (Cond.fieldLinkNest RX13 142 RX12 "rules" "I" RX13) 20 rfl rfl) (fun _ h9 => h9) hv15 dX13_bear_238 ?_
                              refine lv_iconst (v := 1) hx hb dX13_bear_241 (by decide) ?_
                              refine lv_isub hx hb dX13_bear_242 ?_
                              refine lv_topi (fun f_379 ef_379 => ?_)
                              obtain rfl : f_379 = (nI (v15 - 1)) := ef_379.trans (nI_prd (by omega))
                              refine lv_iconst (v := 3) hx hb dX13_bear_243 (by decide) ?_
                              refine lv_aload hx hb dX13_bear_244 (lv_at hl 3 rfl) ?_
                              obtain ⟨v380, hv380, hc380⟩ : ∃ v : Nat, fs14[20]? = some (.ref v : Value) ∧ isk K L v 31 24 := hl14 20 (by decide)
                              refine pg_getN (D := D) (ci := 12) (v := .ref v380) (C := RX12) (T := TX12) (N := 51) hx hb hg inG12 hown hK hP hb_13.1 hM_371 rfl 20 (by decide) (hN.use (Cond.fieldLinkNest RX13 110 RX12 "where" "[I" RX13) 29 rfl rfl) (fun _ h9 => h9) hv380 dX13_bear_246 ?_
                              refine lv_iload hx hb dX13_bear_249 (lv_at hl 2 rfl) ?_
                              obtain ⟨f381, hM381, hf381⟩ := hW.open_31 hc380
                              have hi_382 : vp_in (nI v5w36) 24 := (inbN v5w36 24 (by omega) (by omega))
                              refine pg_iald hx hb hK hP hc380.1 0 hM381 rfl hi_382 dX13_bear_251 ?_
                              have hp_383 := hf381 _ (vp_lt hi_382)
                              obtain ⟨c_384, hc_385, ec_386⟩ := hp_383
                              rw [ec_386]
                              have hPc : va_P D vwCl ([] ++ va_pl L M_369) H_368 := hP.part (cx := []) [] rfl
                              have hDc : va_D A ([] ++ va_pl L M_369) := hD.part (cx := []) [] (by decide) rfl
                              have hFc : ∀ q, va_A ([] ++ va_pl L M_369) H_368.size q → A q := pg_free hDc hS hA
                              refine va_calli (va_runV (As := [.int (nI (v15 - 1)), .int 3, .int (nI c_384)]) (rest := [.int (nI zgw36), .ref z12]) ⟨hx, hb, hml, hown, hg⟩ (r_X12_term l D cy K L M_369 H_368.size b11 (v15 - 1) 3 c_384  hW hb_13 (by omega) (by omega) hc_385) (cwV 3 hg (gV wd_770 wd_771 wd_772 wd_737 wd_773) rfl rfl rfl (by decide +kernel) ⟨(Nat.le_trans (Nat.le_of_ble_eq_true rfl) hRf), (Nat.le_trans (Nat.le_of_ble_eq_true rfl) hRl)⟩) ⟨PG.blind, pg_recv hK hP hb_13.1 hM_371 rfl, fun U hU hW => ⟨rfl, PG.at hPc hK hDc hN hU hW⟩⟩ rfl rfl hl.1 rfl (lv_room (Nat.le_of_ble_eq_true rfl)) dX13_bear_252 ⟨(Nat.le_trans (Nat.le_of_ble_eq_true rfl) hRc), (Nat.le_trans (Nat.le_of_ble_eq_true rfl) hRs)⟩) hS (fun q _ h => hFc q h) hFc (fun r_388 M_389 t H_387 locs ht hvm hw hB hz1 hk1 hS => ?_)
                              have hp_390 := hw
                              obtain ⟨hP1, hD1⟩ := hB
                              rw [ht] at hP1
                              obtain ⟨hP, hD⟩ := va_joinP (X := [(za, .inr (13, [.int 0, .ref z1, .int (nI z2), .int (nI z3), .int z4, .int z5, .ref z6, .ref z7, .ref z8, .ref z9, .int (nI z10), .ref z11, .ref z12, .ref z13, .ref z14, .ref z15, .int (nI zgw36), .ref z17, .int z18, .ref z19]))]) (cx := []) (wr := [(za, .inr (13, [.int 0, .ref z1, .int (nI z2), .int (nI z3), .int z4, .int z5, .ref z6, .ref z7, .ref z8, .ref z9, .int (nI z10), .ref z11, .ref z12, .ref z13, .ref z14, .ref z15, .int (nI zgw36), .ref z17, .int z18, .ref z19]))]) (rx := []) (pl := va_pl L M_369) (pl1 := va_pl L M_369) hP hD [] [0] rfl rfl (by decide) (by decide) hk1 hFc hP1 hD1
                              have hP : va_P D vwCl ([(za, .inr (13, [.int 0, .ref z1, .int (nI z2), .int (nI z3), .int z4, .int z5, .ref z6, .ref z7, .ref z8, .ref z9, .int (nI z10), .ref z11, .ref z12, .ref z13, .ref z14, .ref z15, .int (nI zgw36), .ref z17, .int z18, .ref z19]))] ++ va_pl L M_369) H_387 := hP
                              have hD : va_D A ([(za, .inr (13, [.int 0, .ref z1, .int (nI z2), .int (nI z3), .int z4, .int z5, .ref z6, .ref z7, .ref z8, .ref z9, .int (nI z10), .ref z11, .ref z12, .ref z13, .ref z14, .ref z15, .int (nI zgw36), .ref z17, .int z18, .ref z19]))] ++ va_pl L M_369) := hD
                              obtain ⟨f391, hM391⟩ := hW.open_14 i12
                              refine pg_iast hx hb hK hP hD hS i12.1 0 hM391 rfl (inbN zgw36 24 (by omega) (by omega)) dX13_bear_255 (fun H_392 locs hP hD hS => ?_)
                              obtain ⟨M_393, eM_393⟩ : ∃ M1 : Hp, M1 = va_up M_369 z12 (.inl (cy 14, 24, .inl (upd f391 ((nI zgw36) : Int32).toNatClampNeg r_388))) := ⟨_, rfl⟩
                              have hP : va_P D vwCl ([(za, .inr (13, [.int 0, .ref z1, .int (nI z2), .int (nI z3), .int z4, .int z5, .ref z6, .ref z7, .ref z8, .ref z9, .int (nI z10), .ref z11, .ref z12, .ref z13, .ref z14, .ref z15, .int (nI zgw36), .ref z17, .int z18, .ref z19]))] ++ va_pl L M_393) H_392 := by rw [eM_393]; exact hP
                              have hD : va_D A ([(za, .inr (13, [.int 0, .ref z1, .int (nI z2), .int (nI z3), .int z4, .int z5, .ref z6, .ref z7, .ref z8, .ref z9, .int (nI z10), .ref z11, .ref z12, .ref z13, .ref z14, .ref z15, .int (nI zgw36), .ref z17, .int z18, .ref z19]))] ++ va_pl L M_393) := by rw [eM_393]; exact hD
                              have hW : WOM cy K L M_393 := by rw [eM_393]; exact hW.up_14 i12 ⟨_, rfl⟩
                              have hF : fr K L [14, 15, 32] M M_393 := by rw [eM_393]; exact hF.up i12 (by decide)
                              have hM_394 : M_393 z12 = .inl (cy 14, 24, .inl (upd f391 ((nI zgw36) : Int32).toNatClampNeg r_388)) := by rw [eM_393]; exact va_up_self _ _ _
                              have hM_395 : M_393 z11 = .inl (cy 14, 24, .inl (f_376)) := by rw [eM_393, va_up_ne _ _ (i11.neT i12 (by decide))]; exact hM_370
                              have hM_396 : M_393 b11 = .inr (12, fs14) := by rw [eM_393, va_up_ne _ _ (hb_13.neT i12 (by decide))]; exact hM_371
                              have hM_397 : M_393 v109 = .inl (cy 14, 24, .inl (f110)) := by rw [eM_393, va_up_ne _ _ (hc109.neT i12 (by decide))]; exact hM_372
                              have hM_398 : M_393 v343 = .inl (cy 14, 24, .inl (f344)) := by rw [eM_393, va_up_ne _ _ (hc343.neT i12 (by decide))]; exact hM_373
                              have hM_399 : M_393 v347 = .inl (cy 14, 24, .inl (f348)) := by rw [eM_393, va_up_ne _ _ (hc347.neT i12 (by decide))]; exact hM_374
                              have hM_400 : M_393 v353 = .inl (cy 16, 24, .inl (f354)) := by rw [eM_393, va_up_ne _ _ (hc353.neT i12 (by decide))]; exact hM_375
                              have hM_401 : M_393 v380 = .inl (cy 14, 24, .inl (f381)) := by rw [eM_393, va_up_ne _ _ (hc380.neT i12 (by decide))]; exact hM381
                              obtain ⟨f_402, ef_402⟩ : ∃ f : Nat → Int32, f = upd f391 ((nI zgw36) : Int32).toNatClampNeg r_388 := ⟨_, rfl⟩
                              rw [← ef_402] at hM_394
                              clear ef_402
                              refine lv_aload_n hx hb dX13_bear_256 rfl (lv_at hl 4 rfl) ?_
                              refine va_get (D := D) (ci := 13) (v := .ref z13) (C := RX13) (T := TX13) (N := 20) hx hb hg inG13 hown hK hP 0 rfl rfl 13 (by decide) (hg _ wd_789) (fun _ h9 => h9) rfl dX13_bear_257 ?_
                              refine lv_aload_n hx hb dX13_bear_260 rfl (lv_at hl 4 rfl) ?_
                              refine va_get (D := D) (ci := 13) (v := .int (nI zgw36)) (C := RX13) (T := TX13) (N := 20) hx hb hg inG13 hown hK hP 0 rfl rfl 16 (by decide) (hg _ wd_769) (fun _ h9 => h9) rfl dX13_bear_261 ?_
                              refine lv_lconst (v := 0) hx hb dX13_bear_264 (by decide) ?_
                              obtain ⟨f403, hM403⟩ := hW.open_15 i13
                              refine pg_last hx hb hK hP hD hS i13.1 1 hM403 rfl (inbN zgw36 24 (by omega) (by omega)) dX13_bear_265 (fun H_404 locs hP hD hS => ?_)
                              obtain ⟨M_405, eM_405⟩ : ∃ M1 : Hp, M1 = va_up M_393 z13 (.inl (cy 15, 24, .inr (.inl (vp_updL f403 ((nI zgw36) : Int32).toNatClampNeg 0)))) := ⟨_, rfl⟩
                              have hP : va_P D vwCl ([(za, .inr (13, [.int 0, .ref z1, .int (nI z2), .int (nI z3), .int z4, .int z5, .ref z6, .ref z7, .ref z8, .ref z9, .int (nI z10), .ref z11, .ref z12, .ref z13, .ref z14, .ref z15, .int (nI zgw36), .ref z17, .int z18, .ref z19]))] ++ va_pl L M_405) H_404 := by rw [eM_405]; exact hP
                              have hD : va_D A ([(za, .inr (13, [.int 0, .ref z1, .int (nI z2), .int (nI z3), .int z4, .int z5, .ref z6, .ref z7, .ref z8, .ref z9, .int (nI z10), .ref z11, .ref z12, .ref z13, .ref z14, .ref z15, .int (nI zgw36), .ref z17, .int z18, .ref z19]))] ++ va_pl L M_405) := by rw [eM_405]; exact hD
                              have hW : WOM cy K L M_405 := by rw [eM_405]; exact hW.up_15 i13 ⟨_, rfl⟩
                              have hF : fr K L [14, 15, 32] M M_405 := by rw [eM_405]; exact hF.up i13 (by decide)
                              have hM_406 : M_405 z13 = .inl (cy 15, 24, .inr (.inl (vp_updL f403 ((nI zgw36) : Int32).toNatClampNeg 0))) := by rw [eM_405]; exact va_up_self _ _ _
                              have hM_407 : M_405 z12 = .inl (cy 14, 24, .inl (f_402)) := by rw [eM_405, va_up_ne _ _ (i12.neT i13 (by decide))]; exact hM_394
                              have hM_408 : M_405 z11 = .inl (cy 14, 24, .inl (f_376)) := by rw [eM_405, va_up_ne _ _ (i11.neT i13 (by decide))]; exact hM_395
                              have hM_409 : M_405 b11 = .inr (12, fs14) := by rw [eM_405, va_up_ne _ _ (hb_13.neT i13 (by decide))]; exact hM_396
                              have hM_410 : M_405 v109 = .inl (cy 14, 24, .inl (f110)) := by rw [eM_405, va_up_ne _ _ (hc109.neT i13 (by decide))]; exact hM_397
                              have hM_411 : M_405 v343 = .inl (cy 14, 24, .inl (f344)) := by rw [eM_405, va_up_ne _ _ (hc343.neT i13 (by decide))]; exact hM_398
                              have hM_412 : M_405 v347 = .inl (cy 14, 24, .inl (f348)) := by rw [eM_405, va_up_ne _ _ (hc347.neT i13 (by decide))]; exact hM_399
                              have hM_413 : M_405 v353 = .inl (cy 16, 24, .inl (f354)) := by rw [eM_405, va_up_ne _ _ (hc353.neT i13 (by decide))]; exact hM_400
                              have hM_414 : M_405 v380 = .inl (cy 14, 24, .inl (f381)) := by rw [eM_405, va_up_ne _ _ (hc380.neT i13 (by decide))]; exact hM_401
                              obtain ⟨f_415, ef_415⟩ : ∃ f : Nat → Int64, f = vp_updL f403 ((nI zgw36) : Int32).toNatClampNeg 0 := ⟨_, rfl⟩
                              rw [← ef_415] at hM_406
                              clear ef_415
                              refine lv_aload_n hx hb dX13_bear_266 rfl (lv_at hl 4 rfl) ?_
                              refine lv_dup hx hb dX13_bear_267 rfl ?_
                              refine va_get (D := D) (ci := 13) (v := .int (nI zgw36)) (C := RX13) (T := TX13) (N := 20) hx hb hg inG13 hown hK hP 0 rfl rfl 16 (by decide) (hg _ wd_769) (fun _ h9 => h9) rfl dX13_bear_268 ?_
                              refine lv_iconst (v := 1) hx hb dX13_bear_271 (by decide) ?_
                              refine lv_iadd hx hb dX13_bear_272 ?_
                              refine lv_topi (fun f_416 ef_416 => ?_)
                              obtain rfl : f_416 = (nI (zgw36 + 1)) := ef_416.trans (nI_add zgw36 1)
                              refine va_put (D := D) (ci := 13) (v := .int (nI (zgw36 + 1))) (ty := .int) (C := RX13) (T := TX13) (N := 20) hx hb hg inG13 tyX13 tyX13_ok nmX13 hown hK hP hD hS 0 rfl rfl 16 (by decide) (hg _ wd_769) (fun _ h9 => h9) rfl (by decide +kernel) rfl rfl (Nat.le_of_ble_eq_true rfl) dX13_bear_273 (fun H_417 locs hP hD hS => ?_)
                              have hP : va_P D vwCl ([(za, .inr (13, [.int 0, .ref z1, .int (nI z2), .int (nI z3), .int z4, .int z5, .ref z6, .ref z7, .ref z8, .ref z9, .int (nI z10), .ref z11, .ref z12, .ref z13, .ref z14, .ref z15, .int (nI (zgw36 + 1)), .ref z17, .int z18, .ref z19]))] ++ va_pl L M_405) H_417 := hP
                              have hD : va_D A ([(za, .inr (13, [.int 0, .ref z1, .int (nI z2), .int (nI z3), .int z4, .int z5, .ref z6, .ref z7, .ref z8, .ref z9, .int (nI z10), .ref z11, .ref z12, .ref z13, .ref z14, .ref z15, .int (nI (zgw36 + 1)), .ref z17, .int z18, .ref z19]))] ++ va_pl L M_405) := hD
                              refine lv_iinc (v := (nI (v5w36 + 1))) (lv' := [(5, .int (nI (v5w36 + 1))), (7, .int 1), (6, .int 0), (4, .ref b11), (0, .ref za), (1, .int k1), (2, .int k2), (3, .int k3)]) hx hb dX13_bear_276 hl (k := 2) rfl (nI_1 v5w36) (by decide) rfl (fun ls hl => ?_)
                              refine lv_goto (tgt := 82) hx hb dX13_bear_279 (by decide) ?_
                              exact ih_34 (v5w36 + 1) (zgw36 + 1) M_405 H_417 _ _ (by omega) hM_409 (by omega) (by omega) hW hF hP hD hS (lv_sub hl [0, 3, 4, 5, 6, 7] rfl)
                      · have hz := rfl (a := 0)
                        refine lv_iconst (v := 1) hx hb dX13_bear_139 (by decide) ?_
                        refine lv_goto (tgt := 144) hx hb dX13_bear_140 (by decide) ?_
                        refine lv_istore (lv' := [(6, .int 1), (5, .int (nI v5w36)), (4, .ref b11), (0, .ref za), (1, .int k1), (2, .int k2), (3, .int k3)]) hx hb dX13_bear_144 hl (by decide) rfl (fun ls hl => ?_)
                        refine lv_aload hx hb dX13_bear_146 (lv_at hl 2 rfl) ?_
                        obtain ⟨v418, hv418, hc418⟩ : ∃ v : Nat, fs14[21]? = some (.ref v : Value) ∧ isk K L v 75 24 := hl14 21 (by decide)
                        refine pg_getN (D := D) (ci := 12) (v := .ref v418) (C := RX12) (T := TX12) (N := 51) hx hb hg inG12 hown hK hP hb_13.1 hM_41 rfl 21 (by decide) (hN.use (Cond.fieldLinkNest RX13 112 RX12 "begin" "[I" RX13) 30 rfl rfl) (fun _ h9 => h9) hv418 dX13_bear_148 ?_
                        refine lv_iload hx hb dX13_bear_151 (lv_at hl 1 rfl) ?_
                        obtain ⟨f419, hM419⟩ := hW.open_75 hc418
                        refine pg_iald hx hb hK hP hc418.1 0 hM419 rfl (inbN v5w36 24 (by omega) (by omega)) dX13_bear_153 ?_
                        refine lv_topi (fun f_420 ef_420 => ?_)
                        refine lv_iload_n hx hb dX13_bear_154 rfl (lv_at hl 5 rfl) ?_
                        refine lv_icmp_le (tgt := 185) hx hb dX13_bear_155 (by decide) (fun c_421 => ?_) (fun c_421 => ?_)
                        · have hz := rfl (a := 0)
                          refine lv_iconst (v := 0) hx hb dX13_bear_185 (by decide) ?_
                          refine lv_istore (lv' := [(7, .int 0), (6, .int 1), (5, .int (nI v5w36)), (4, .ref b11), (0, .ref za), (1, .int k1), (2, .int k2), (3, .int k3)]) hx hb dX13_bear_186 hl (by decide) rfl (fun ls hl => ?_)
                          refine lv_iload hx hb dX13_bear_188 (lv_at hl 1 rfl) ?_
                          refine lv_if_ne (tgt := 201) hx hb dX13_bear_190 (by decide) (fun _ => ?_) (fun c_422 => absurd c_422 (by decide))
                          refine lv_aload_n hx hb dX13_bear_201 rfl (lv_at hl 4 rfl) ?_
                          refine va_get (D := D) (ci := 13) (v := .ref z11) (C := RX13) (T := TX13) (N := 20) hx hb hg inG13 hown hK hP 0 rfl rfl 11 (by decide) (hg _ wd_764) (fun _ h9 => h9) rfl dX13_bear_202 ?_
                          refine lv_aload_n hx hb dX13_bear_205 rfl (lv_at hl 4 rfl) ?_
                          refine va_get (D := D) (ci := 13) (v := .int (nI zgw36)) (C := RX13) (T := TX13) (N := 20) hx hb hg inG13 hown hK hP 0 rfl rfl 16 (by decide) (hg _ wd_769) (fun _ h9 => h9) rfl dX13_bear_206 ?_
                          refine lv_iload hx hb dX13_bear_209 (lv_at hl 2 rfl) ?_
                          obtain ⟨f423, hM423, hf423⟩ := hW.open_32 i11
                          refine pg_iast hx hb hK hP hD hS i11.1 0 hM423 rfl (inbN zgw36 24 (by omega) (by omega)) dX13_bear_211 (fun H_424 locs hP hD hS => ?_)
                          obtain ⟨M_425, eM_425⟩ : ∃ M1 : Hp, M1 = va_up M_39 z11 (.inl (cy 14, 24, .inl (upd f423 ((nI zgw36) : Int32).toNatClampNeg (nI v5w36)))) := ⟨_, rfl⟩
                          have hP : va_P D vwCl ([(za, .inr (13, [.int 0, .ref z1, .int (nI z2), .int (nI z3), .int z4, .int z5, .ref z6, .ref z7, .ref z8, .ref z9, .int (nI z10), .ref z11, .ref z12, .ref z13, .ref z14, .ref z15, .int (nI zgw36), .ref z17, .int z18, .ref z19]))] ++ va_pl L M_425) H_424 := by rw [eM_425]; exact hP
                          have hD : va_D A ([(za, .inr (13, [.int 0, .ref z1, .int (nI z2), .int (nI z3), .int z4, .int z5, .ref z6, .ref z7, .ref z8, .ref z9, .int (nI z10), .ref z11, .ref z12, .ref z13, .ref z14, .ref z15, .int (nI zgw36), .ref z17, .int z18, .ref z19]))] ++ va_pl L M_425) := by rw [eM_425]; exact hD
                          have hW : WOM cy K L M_425 := by rw [eM_425]; exact hW.up_32 i11 ⟨_, rfl, (updP (P := fun z => ∃ c : Nat, c < 24 ∧ z = nI c) hf423 ⟨v5w36, by omega, rfl⟩)⟩
                          have hF : fr K L [14, 15, 32] M M_425 := by rw [eM_425]; exact hF.up i11 (by decide)
                          have hM_426 : M_425 z11 = .inl (cy 14, 24, .inl (upd f423 ((nI zgw36) : Int32).toNatClampNeg (nI v5w36))) := by rw [eM_425]; exact va_up_self _ _ _
                          have hM_427 : M_425 b11 = .inr (12, fs14) := by rw [eM_425, va_up_ne _ _ (hb_13.neT i11 (by decide))]; exact hM_41
                          have hM_428 : M_425 v109 = .inl (cy 14, 24, .inl (f110)) := by rw [eM_425, va_up_ne _ _ (hc109.neT i11 (by decide))]; exact hM110
                          have hM_429 : M_425 v343 = .inl (cy 14, 24, .inl (f344)) := by rw [eM_425, va_up_ne _ _ (hc343.neT i11 (by decide))]; exact hM344
                          have hM_430 : M_425 v418 = .inl (cy 14, 24, .inl (f419)) := by rw [eM_425, va_up_ne _ _ (hc418.neT i11 (by decide))]; exact hM419
                          have hf_432 : ∀ j, j < 24 → ∃ c : Nat, c < 24 ∧ (upd f423 ((nI zgw36) : Int32).toNatClampNeg (nI v5w36)) j = nI c := (updP (P := fun z => ∃ c : Nat, c < 24 ∧ z = nI c) hf423 ⟨v5w36, by omega, rfl⟩)
                          obtain ⟨f_431, ef_431⟩ : ∃ f : Nat → Int32, f = upd f423 ((nI zgw36) : Int32).toNatClampNeg (nI v5w36) := ⟨_, rfl⟩
                          rw [← ef_431] at hM_426 hf_432
                          clear ef_431
                          refine lv_aload_n hx hb dX13_bear_212 rfl (lv_at hl 4 rfl) ?_
                          refine va_get (D := D) (ci := 13) (v := .ref z12) (C := RX13) (T := TX13) (N := 20) hx hb hg inG13 hown hK hP 0 rfl rfl 12 (by decide) (hg _ wd_763) (fun _ h9 => h9) rfl dX13_bear_213 ?_
                          refine lv_aload_n hx hb dX13_bear_216 rfl (lv_at hl 4 rfl) ?_
                          refine va_get (D := D) (ci := 13) (v := .int (nI zgw36)) (C := RX13) (T := TX13) (N := 20) hx hb hg inG13 hown hK hP 0 rfl rfl 16 (by decide) (hg _ wd_769) (fun _ h9 => h9) rfl dX13_bear_217 ?_
                          refine lv_aload hx hb dX13_bear_220 (lv_at hl 3 rfl) ?_
                          refine lv_iload hx hb dX13_bear_222 (lv_at hl 1 rfl) ?_
                          refine lv_if_eq (tgt := 236) hx hb dX13_bear_224 (by decide) (fun c_433 => absurd c_433 (by decide)) (fun _ => ?_)
                          refine lv_aload hx hb dX13_bear_227 (lv_at hl 3 rfl) ?_
                          refine lv_iload_n hx hb dX13_bear_229 rfl (lv_at hl 6 rfl) ?_
                          have hPc : va_P D vwCl ([] ++ va_pl L M_425) H_424 := hP.part (cx := []) [] rfl
                          have hDc : va_D A ([] ++ va_pl L M_425) := hD.part (cx := []) [] (by decide) rfl
                          have hFc : ∀ q, va_A ([] ++ va_pl L M_425) H_424.size q → A q := pg_free hDc hS hA
                          refine va_calli (va_runV (As := [.int k2]) (rest := [.ref b11, .int (nI zgw36), .ref z12]) ⟨hx, hb, hml, hown, hg⟩ (r_ruleOnP l D cy K L M_425 H_424.size b11 k2  hW hb_13 (RLD.of hW (RLI.fr hW0 hRL hF (by decide) (by decide)) hb_13 hM_427 hv15 (by omega) hc15 hv24 (Int32.not_lt.mp c_25))) (cwV 1 hg (gV wd_815 wd_816 wd_817 wd_737 wd_818) rfl rfl rfl (by decide +kernel) ⟨(Nat.le_trans (Nat.le_of_ble_eq_true rfl) hRf), (Nat.le_trans (Nat.le_of_ble_eq_true rfl) hRl)⟩) ⟨PG.blind, pg_recv hK hP hb_13.1 hM_427 rfl, fun U hU hW => ⟨rfl, PG.at hPc hK hDc hN hU hW⟩⟩ rfl rfl hl.1 rfl (lv_room (Nat.le_of_ble_eq_true rfl)) dX13_bear_230 ⟨(Nat.le_trans (Nat.le_of_ble_eq_true rfl) hRc), (Nat.le_trans (Nat.le_of_ble_eq_true rfl) hRs)⟩) hS (fun q _ h => hFc q h) hFc (fun r_435 M_436 t H_434 locs ht hvm hw hB hz1 hk1 hS => ?_)
                          have hp_437 := hw
                          obtain ⟨hP1, hD1⟩ := hB
                          rw [ht] at hP1
                          obtain ⟨hP, hD⟩ := va_joinP (X := [(za, .inr (13, [.int 0, .ref z1, .int (nI z2), .int (nI z3), .int z4, .int z5, .ref z6, .ref z7, .ref z8, .ref z9, .int (nI z10), .ref z11, .ref z12, .ref z13, .ref z14, .ref z15, .int (nI zgw36), .ref z17, .int z18, .ref z19]))]) (cx := []) (wr := [(za, .inr (13, [.int 0, .ref z1, .int (nI z2), .int (nI z3), .int z4, .int z5, .ref z6, .ref z7, .ref z8, .ref z9, .int (nI z10), .ref z11, .ref z12, .ref z13, .ref z14, .ref z15, .int (nI zgw36), .ref z17, .int z18, .ref z19]))]) (rx := []) (pl := va_pl L M_425) (pl1 := va_pl L M_425) hP hD [] [0] rfl rfl (by decide) (by decide) hk1 hFc hP1 hD1
                          have hP : va_P D vwCl ([(za, .inr (13, [.int 0, .ref z1, .int (nI z2), .int (nI z3), .int z4, .int z5, .ref z6, .ref z7, .ref z8, .ref z9, .int (nI z10), .ref z11, .ref z12, .ref z13, .ref z14, .ref z15, .int (nI zgw36), .ref z17, .int z18, .ref z19]))] ++ va_pl L M_425) H_434 := hP
                          have hD : va_D A ([(za, .inr (13, [.int 0, .ref z1, .int (nI z2), .int (nI z3), .int z4, .int z5, .ref z6, .ref z7, .ref z8, .ref z9, .int (nI z10), .ref z11, .ref z12, .ref z13, .ref z14, .ref z15, .int (nI zgw36), .ref z17, .int z18, .ref z19]))] ++ va_pl L M_425) := hD
                          obtain ⟨j_438, rfl, c_439⟩ := hp_437
                          refine lv_goto (tgt := 243) hx hb dX13_bear_233 (by decide) ?_
                          refine lv_iconst (v := 3) hx hb dX13_bear_243 (by decide) ?_
                          refine lv_aload hx hb dX13_bear_244 (lv_at hl 3 rfl) ?_
                          obtain ⟨v440, hv440, hc440⟩ : ∃ v : Nat, fs14[20]? = some (.ref v : Value) ∧ isk K L v 31 24 := hl14 20 (by decide)
                          refine pg_getN (D := D) (ci := 12) (v := .ref v440) (C := RX12) (T := TX12) (N := 51) hx hb hg inG12 hown hK hP hb_13.1 hM_427 rfl 20 (by decide) (hN.use (Cond.fieldLinkNest RX13 110 RX12 "where" "[I" RX13) 29 rfl rfl) (fun _ h9 => h9) hv440 dX13_bear_246 ?_
                          refine lv_iload hx hb dX13_bear_249 (lv_at hl 2 rfl) ?_
                          obtain ⟨f441, hM441, hf441⟩ := hW.open_31 hc440
                          have hi_442 : vp_in (nI v5w36) 24 := (inbN v5w36 24 (by omega) (by omega))
                          refine pg_iald hx hb hK hP hc440.1 0 hM441 rfl hi_442 dX13_bear_251 ?_
                          have hp_443 := hf441 _ (vp_lt hi_442)
                          obtain ⟨c_444, hc_445, ec_446⟩ := hp_443
                          rw [ec_446]
                          have hPc : va_P D vwCl ([] ++ va_pl L M_425) H_434 := hP.part (cx := []) [] rfl
                          have hDc : va_D A ([] ++ va_pl L M_425) := hD.part (cx := []) [] (by decide) rfl
                          have hFc : ∀ q, va_A ([] ++ va_pl L M_425) H_434.size q → A q := pg_free hDc hS hA
                          refine va_calli (va_runV (As := [.int (nI j_438), .int 3, .int (nI c_444)]) (rest := [.int (nI zgw36), .ref z12]) ⟨hx, hb, hml, hown, hg⟩ (r_X12_term l D cy K L M_425 H_434.size b11 j_438 3 c_444  hW hb_13 c_439 (by omega) hc_445) (cwV 3 hg (gV wd_770 wd_771 wd_772 wd_737 wd_773) rfl rfl rfl (by decide +kernel) ⟨(Nat.le_trans (Nat.le_of_ble_eq_true rfl) hRf), (Nat.le_trans (Nat.le_of_ble_eq_true rfl) hRl)⟩) ⟨PG.blind, pg_recv hK hP hb_13.1 hM_427 rfl, fun U hU hW => ⟨rfl, PG.at hPc hK hDc hN hU hW⟩⟩ rfl rfl hl.1 rfl (lv_room (Nat.le_of_ble_eq_true rfl)) dX13_bear_252 ⟨(Nat.le_trans (Nat.le_of_ble_eq_true rfl) hRc), (Nat.le_trans (Nat.le_of_ble_eq_true rfl) hRs)⟩) hS (fun q _ h => hFc q h) hFc (fun r_448 M_449 t H_447 locs ht hvm hw hB hz1 hk1 hS => ?_)
                          have hp_450 := hw
                          obtain ⟨hP1, hD1⟩ := hB
                          rw [ht] at hP1
                          obtain ⟨hP, hD⟩ := va_joinP (X := [(za, .inr (13, [.int 0, .ref z1, .int (nI z2), .int (nI z3), .int z4, .int z5, .ref z6, .ref z7, .ref z8, .ref z9, .int (nI z10), .ref z11, .ref z12, .ref z13, .ref z14, .ref z15, .int (nI zgw36), .ref z17, .int z18, .ref z19]))]) (cx := []) (wr := [(za, .inr (13, [.int 0, .ref z1, .int (nI z2), .int (nI z3), .int z4, .int z5, .ref z6, .ref z7, .ref z8, .ref z9, .int (nI z10), .ref z11, .ref z12, .ref z13, .ref z14, .ref z15, .int (nI zgw36), .ref z17, .int z18, .ref z19]))]) (rx := []) (pl := va_pl L M_425) (pl1 := va_pl L M_425) hP hD [] [0] rfl rfl (by decide) (by decide) hk1 hFc hP1 hD1
                          have hP : va_P D vwCl ([(za, .inr (13, [.int 0, .ref z1, .int (nI z2), .int (nI z3), .int z4, .int z5, .ref z6, .ref z7, .ref z8, .ref z9, .int (nI z10), .ref z11, .ref z12, .ref z13, .ref z14, .ref z15, .int (nI zgw36), .ref z17, .int z18, .ref z19]))] ++ va_pl L M_425) H_447 := hP
                          have hD : va_D A ([(za, .inr (13, [.int 0, .ref z1, .int (nI z2), .int (nI z3), .int z4, .int z5, .ref z6, .ref z7, .ref z8, .ref z9, .int (nI z10), .ref z11, .ref z12, .ref z13, .ref z14, .ref z15, .int (nI zgw36), .ref z17, .int z18, .ref z19]))] ++ va_pl L M_425) := hD
                          obtain ⟨f451, hM451⟩ := hW.open_14 i12
                          refine pg_iast hx hb hK hP hD hS i12.1 0 hM451 rfl (inbN zgw36 24 (by omega) (by omega)) dX13_bear_255 (fun H_452 locs hP hD hS => ?_)
                          obtain ⟨M_453, eM_453⟩ : ∃ M1 : Hp, M1 = va_up M_425 z12 (.inl (cy 14, 24, .inl (upd f451 ((nI zgw36) : Int32).toNatClampNeg r_448))) := ⟨_, rfl⟩
                          have hP : va_P D vwCl ([(za, .inr (13, [.int 0, .ref z1, .int (nI z2), .int (nI z3), .int z4, .int z5, .ref z6, .ref z7, .ref z8, .ref z9, .int (nI z10), .ref z11, .ref z12, .ref z13, .ref z14, .ref z15, .int (nI zgw36), .ref z17, .int z18, .ref z19]))] ++ va_pl L M_453) H_452 := by rw [eM_453]; exact hP
                          have hD : va_D A ([(za, .inr (13, [.int 0, .ref z1, .int (nI z2), .int (nI z3), .int z4, .int z5, .ref z6, .ref z7, .ref z8, .ref z9, .int (nI z10), .ref z11, .ref z12, .ref z13, .ref z14, .ref z15, .int (nI zgw36), .ref z17, .int z18, .ref z19]))] ++ va_pl L M_453) := by rw [eM_453]; exact hD
                          have hW : WOM cy K L M_453 := by rw [eM_453]; exact hW.up_14 i12 ⟨_, rfl⟩
                          have hF : fr K L [14, 15, 32] M M_453 := by rw [eM_453]; exact hF.up i12 (by decide)
                          have hM_454 : M_453 z12 = .inl (cy 14, 24, .inl (upd f451 ((nI zgw36) : Int32).toNatClampNeg r_448)) := by rw [eM_453]; exact va_up_self _ _ _
                          have hM_455 : M_453 z11 = .inl (cy 14, 24, .inl (f_431)) := by rw [eM_453, va_up_ne _ _ (i11.neT i12 (by decide))]; exact hM_426
                          have hM_456 : M_453 b11 = .inr (12, fs14) := by rw [eM_453, va_up_ne _ _ (hb_13.neT i12 (by decide))]; exact hM_427
                          have hM_457 : M_453 v109 = .inl (cy 14, 24, .inl (f110)) := by rw [eM_453, va_up_ne _ _ (hc109.neT i12 (by decide))]; exact hM_428
                          have hM_458 : M_453 v343 = .inl (cy 14, 24, .inl (f344)) := by rw [eM_453, va_up_ne _ _ (hc343.neT i12 (by decide))]; exact hM_429
                          have hM_459 : M_453 v418 = .inl (cy 14, 24, .inl (f419)) := by rw [eM_453, va_up_ne _ _ (hc418.neT i12 (by decide))]; exact hM_430
                          have hM_460 : M_453 v440 = .inl (cy 14, 24, .inl (f441)) := by rw [eM_453, va_up_ne _ _ (hc440.neT i12 (by decide))]; exact hM441
                          obtain ⟨f_461, ef_461⟩ : ∃ f : Nat → Int32, f = upd f451 ((nI zgw36) : Int32).toNatClampNeg r_448 := ⟨_, rfl⟩
                          rw [← ef_461] at hM_454
                          clear ef_461
                          refine lv_aload_n hx hb dX13_bear_256 rfl (lv_at hl 4 rfl) ?_
                          refine va_get (D := D) (ci := 13) (v := .ref z13) (C := RX13) (T := TX13) (N := 20) hx hb hg inG13 hown hK hP 0 rfl rfl 13 (by decide) (hg _ wd_789) (fun _ h9 => h9) rfl dX13_bear_257 ?_
                          refine lv_aload_n hx hb dX13_bear_260 rfl (lv_at hl 4 rfl) ?_
                          refine va_get (D := D) (ci := 13) (v := .int (nI zgw36)) (C := RX13) (T := TX13) (N := 20) hx hb hg inG13 hown hK hP 0 rfl rfl 16 (by decide) (hg _ wd_769) (fun _ h9 => h9) rfl dX13_bear_261 ?_
                          refine lv_lconst (v := 0) hx hb dX13_bear_264 (by decide) ?_
                          obtain ⟨f462, hM462⟩ := hW.open_15 i13
                          refine pg_last hx hb hK hP hD hS i13.1 1 hM462 rfl (inbN zgw36 24 (by omega) (by omega)) dX13_bear_265 (fun H_463 locs hP hD hS => ?_)
                          obtain ⟨M_464, eM_464⟩ : ∃ M1 : Hp, M1 = va_up M_453 z13 (.inl (cy 15, 24, .inr (.inl (vp_updL f462 ((nI zgw36) : Int32).toNatClampNeg 0)))) := ⟨_, rfl⟩
                          have hP : va_P D vwCl ([(za, .inr (13, [.int 0, .ref z1, .int (nI z2), .int (nI z3), .int z4, .int z5, .ref z6, .ref z7, .ref z8, .ref z9, .int (nI z10), .ref z11, .ref z12, .ref z13, .ref z14, .ref z15, .int (nI zgw36), .ref z17, .int z18, .ref z19]))] ++ va_pl L M_464) H_463 := by rw [eM_464]; exact hP
                          have hD : va_D A ([(za, .inr (13, [.int 0, .ref z1, .int (nI z2), .int (nI z3), .int z4, .int z5, .ref z6, .ref z7, .ref z8, .ref z9, .int (nI z10), .ref z11, .ref z12, .ref z13, .ref z14, .ref z15, .int (nI zgw36), .ref z17, .int z18, .ref z19]))] ++ va_pl L M_464) := by rw [eM_464]; exact hD
                          have hW : WOM cy K L M_464 := by rw [eM_464]; exact hW.up_15 i13 ⟨_, rfl⟩
                          have hF : fr K L [14, 15, 32] M M_464 := by rw [eM_464]; exact hF.up i13 (by decide)
                          have hM_465 : M_464 z13 = .inl (cy 15, 24, .inr (.inl (vp_updL f462 ((nI zgw36) : Int32).toNatClampNeg 0))) := by rw [eM_464]; exact va_up_self _ _ _
                          have hM_466 : M_464 z12 = .inl (cy 14, 24, .inl (f_461)) := by rw [eM_464, va_up_ne _ _ (i12.neT i13 (by decide))]; exact hM_454
                          have hM_467 : M_464 z11 = .inl (cy 14, 24, .inl (f_431)) := by rw [eM_464, va_up_ne _ _ (i11.neT i13 (by decide))]; exact hM_455
                          have hM_468 : M_464 b11 = .inr (12, fs14) := by rw [eM_464, va_up_ne _ _ (hb_13.neT i13 (by decide))]; exact hM_456
                          have hM_469 : M_464 v109 = .inl (cy 14, 24, .inl (f110)) := by rw [eM_464, va_up_ne _ _ (hc109.neT i13 (by decide))]; exact hM_457
                          have hM_470 : M_464 v343 = .inl (cy 14, 24, .inl (f344)) := by rw [eM_464, va_up_ne _ _ (hc343.neT i13 (by decide))]; exact hM_458
                          have hM_471 : M_464 v418 = .inl (cy 14, 24, .inl (f419)) := by rw [eM_464, va_up_ne _ _ (hc418.neT i13 (by decide))]; exact hM_459
                          have hM_472 : M_464 v440 = .inl (cy 14, 24, .inl (f441)) := by rw [eM_464, va_up_ne _ _ (hc440.neT i13 (by decide))]; exact hM_460
                          obtain ⟨f_473, ef_473⟩ : ∃ f : Nat → Int64, f = vp_updL f462 ((nI zgw36) : Int32).toNatClampNeg 0 := ⟨_, rfl⟩
                          rw [← ef_473] at hM_465
                          clear ef_473
                          refine lv_aload_n hx hb dX13_bear_266 rfl (lv_at hl 4 rfl) ?_
                          refine lv_dup hx hb dX13_bear_267 rfl ?_
                          refine va_get (D := D) (ci := 13) (v := .int (nI zgw36)) (C := RX13) (T := TX13) (N := 20) hx hb hg inG13 hown hK hP 0 rfl rfl 16 (by decide) (hg _ wd_769) (fun _ h9 => h9) rfl dX13_bear_268 ?_
                          refine lv_iconst (v := 1) hx hb dX13_bear_271 (by decide) ?_
                          refine lv_iadd hx hb dX13_bear_272 ?_
                          refine lv_topi (fun f_474 ef_474 => ?_)
                          obtain rfl : f_474 = (nI (zgw36 + 1)) := ef_474.trans (nI_add zgw36 1)
                          refine va_put (D := D) (ci := 13) (v := .int (nI (zgw36 + 1))) (ty := .int) (C := RX13) (T := TX13) (N := 20) hx hb hg inG13 tyX13 tyX13_ok nmX13 hown hK hP hD hS 0 rfl rfl 16 (by decide) (hg _ wd_769) (fun _ h9 => h9) rfl (by decide +kernel) rfl rfl (Nat.le_of_ble_eq_true rfl) dX13_bear_273 (fun H_475 locs hP hD hS => ?_)
                          have hP : va_P D vwCl ([(za, .inr (13, [.int 0, .ref z1, .int (nI z2), .int (nI z3), .int z4, .int z5, .ref z6, .ref z7, .ref z8, .ref z9, .int (nI z10), .ref z11, .ref z12, .ref z13, .ref z14, .ref z15, .int (nI (zgw36 + 1)), .ref z17, .int z18, .ref z19]))] ++ va_pl L M_464) H_475 := hP
                          have hD : va_D A ([(za, .inr (13, [.int 0, .ref z1, .int (nI z2), .int (nI z3), .int z4, .int z5, .ref z6, .ref z7, .ref z8, .ref z9, .int (nI z10), .ref z11, .ref z12, .ref z13, .ref z14, .ref z15, .int (nI (zgw36 + 1)), .ref z17, .int z18, .ref z19]))] ++ va_pl L M_464) := hD
                          refine lv_iinc (v := (nI (v5w36 + 1))) (lv' := [(5, .int (nI (v5w36 + 1))), (7, .int 0), (6, .int 1), (4, .ref b11), (0, .ref za), (1, .int k1), (2, .int k2), (3, .int k3)]) hx hb dX13_bear_276 hl (k := 2) rfl (nI_1 v5w36) (by decide) rfl (fun ls hl => ?_)
                          refine lv_goto (tgt := 82) hx hb dX13_bear_279 (by decide) ?_
                          exact ih_34 (v5w36 + 1) (zgw36 + 1) M_464 H_475 _ _ (by omega) hM_468 (by omega) (by omega) hW hF hP hD hS (lv_sub hl [0, 3, 4, 5, 6, 7] rfl)
                        · have hz := rfl (a := 0)
                          refine lv_aload hx hb dX13_bear_158 (lv_at hl 2 rfl) ?_
                          obtain ⟨v476, hv476, hc476⟩ : ∃ v : Nat, fs14[26]? = some (.ref v : Value) ∧ isk K L v 16 24 := hl14 26 (by decide)
                          refine pg_getN (D := D) (ci := 12) (v := .ref v476) (C := RX12) (T := TX12) (N := 51) hx hb hg inG12 hown hK hP hb_13.1 hM_41 rfl 26 (by decide) (hN.use (Cond.fieldLinkNest RX13 124 RX12 "word" "[Z" RX13) 35 rfl rfl) (fun _ h9 => h9) hv476 dX13_bear_160 ?_
                          refine lv_iload hx hb dX13_bear_163 (lv_at hl 1 rfl) ?_
                          obtain ⟨f477, hM477, hf477⟩ := hW.open_16 hc476
                          have hi_478 : vp_in (nI v5w36) 24 := (inbN v5w36 24 (by omega) (by omega))
                          refine pg_zald hx hb hK hP hc476.1 2 hM477 rfl hi_478 dX13_bear_165 ?_
                          rcases hf477 _ (vp_lt hi_478) with ec_479 | ec_479
                          · rw [ec_479]
                            refine lv_if_eq (tgt := 185) hx hb dX13_bear_166 (by decide) (fun _ => ?_) (fun c_480 => absurd c_480 (by decide))
                            refine lv_iconst (v := 0) hx hb dX13_bear_185 (by decide) ?_
                            refine lv_istore (lv' := [(7, .int 0), (6, .int 1), (5, .int (nI v5w36)), (4, .ref b11), (0, .ref za), (1, .int k1), (2, .int k2), (3, .int k3)]) hx hb dX13_bear_186 hl (by decide) rfl (fun ls hl => ?_)
                            refine lv_iload hx hb dX13_bear_188 (lv_at hl 1 rfl) ?_
                            refine lv_if_ne (tgt := 201) hx hb dX13_bear_190 (by decide) (fun _ => ?_) (fun c_481 => absurd c_481 (by decide))
                            refine lv_aload_n hx hb dX13_bear_201 rfl (lv_at hl 4 rfl) ?_
                            refine va_get (D := D) (ci := 13) (v := .ref z11) (C := RX13) (T := TX13) (N := 20) hx hb hg inG13 hown hK hP 0 rfl rfl 11 (by decide) (hg _ wd_764) (fun _ h9 => h9) rfl dX13_bear_202 ?_
                            refine lv_aload_n hx hb dX13_bear_205 rfl (lv_at hl 4 rfl) ?_
                            refine va_get (D := D) (ci := 13) (v := .int (nI zgw36)) (C := RX13) (T := TX13) (N := 20) hx hb hg inG13 hown hK hP 0 rfl rfl 16 (by decide) (hg _ wd_769) (fun _ h9 => h9) rfl dX13_bear_206 ?_
                            refine lv_iload hx hb dX13_bear_209 (lv_at hl 2 rfl) ?_
                            obtain ⟨f482, hM482, hf482⟩ := hW.open_32 i11
                            refine pg_iast hx hb hK hP hD hS i11.1 0 hM482 rfl (inbN zgw36 24 (by omega) (by omega)) dX13_bear_211 (fun H_483 locs hP hD hS => ?_)
                            obtain ⟨M_484, eM_484⟩ : ∃ M1 : Hp, M1 = va_up M_39 z11 (.inl (cy 14, 24, .inl (upd f482 ((nI zgw36) : Int32).toNatClampNeg (nI v5w36)))) := ⟨_, rfl⟩
                            have hP : va_P D vwCl ([(za, .inr (13, [.int 0, .ref z1, .int (nI z2), .int (nI z3), .int z4, .int z5, .ref z6, .ref z7, .ref z8, .ref z9, .int (nI z10), .ref z11, .ref z12, .ref z13, .ref z14, .ref z15, .int (nI zgw36), .ref z17, .int z18, .ref z19]))] ++ va_pl L M_484) H_483 := by rw [eM_484]; exact hP
                            have hD : va_D A ([(za, .inr (13, [.int 0, .ref z1, .int (nI z2), .int (nI z3), .int z4, .int z5, .ref z6, .ref z7, .ref z8, .ref z9, .int (nI z10), .ref z11, .ref z12, .ref z13, .ref z14, .ref z15, .int (nI zgw36), .ref z17, .int z18, .ref z19]))] ++ va_pl L M_484) := by rw [eM_484]; exact hD
                            have hW : WOM cy K L M_484 := by rw [eM_484]; exact hW.up_32 i11 ⟨_, rfl, (updP (P := fun z => ∃ c : Nat, c < 24 ∧ z = nI c) hf482 ⟨v5w36, by omega, rfl⟩)⟩
                            have hF : fr K L [14, 15, 32] M M_484 := by rw [eM_484]; exact hF.up i11 (by decide)
                            have hM_485 : M_484 z11 = .inl (cy 14, 24, .inl (upd f482 ((nI zgw36) : Int32).toNatClampNeg (nI v5w36))) := by rw [eM_484]; exact va_up_self _ _ _
                            have hM_486 : M_484 b11 = .inr (12, fs14) := by rw [eM_484, va_up_ne _ _ (hb_13.neT i11 (by decide))]; exact hM_41
                            have hM_487 : M_484 v109 = .inl (cy 14, 24, .inl (f110)) := by rw [eM_484, va_up_ne _ _ (hc109.neT i11 (by decide))]; exact hM110
                            have hM_488 : M_484 v343 = .inl (cy 14, 24, .inl (f344)) := by rw [eM_484, va_up_ne _ _ (hc343.neT i11 (by decide))]; exact hM344
                            have hM_489 : M_484 v418 = .inl (cy 14, 24, .inl (f419)) := by rw [eM_484, va_up_ne _ _ (hc418.neT i11 (by decide))]; exact hM419
                            have hM_490 : M_484 v476 = .inl (cy 16, 24, .inl (f477)) := by rw [eM_484, va_up_ne _ _ (hc476.neT i11 (by decide))]; exact hM477
                            have hf_492 : ∀ j, j < 24 → ∃ c : Nat, c < 24 ∧ (upd f482 ((nI zgw36) : Int32).toNatClampNeg (nI v5w36)) j = nI c := (updP (P := fun z => ∃ c : Nat, c < 24 ∧ z = nI c) hf482 ⟨v5w36, by omega, rfl⟩)
                            obtain ⟨f_491, ef_491⟩ : ∃ f : Nat → Int32, f = upd f482 ((nI zgw36) : Int32).toNatClampNeg (nI v5w36) := ⟨_, rfl⟩
                            rw [← ef_491] at hM_485 hf_492
                            clear ef_491
                            refine lv_aload_n hx hb dX13_bear_212 rfl (lv_at hl 4 rfl) ?_
                            refine va_get (D := D) (ci := 13) (v := .ref z12) (C := RX13) (T := TX13) (N := 20) hx hb hg inG13 hown hK hP 0 rfl rfl 12 (by decide) (hg _ wd_763) (fun _ h9 => h9) rfl dX13_bear_213 ?_
                            refine lv_aload_n hx hb dX13_bear_216 rfl (lv_at hl 4 rfl) ?_
                            refine va_get (D := D) (ci := 13) (v := .int (nI zgw36)) (C := RX13) (T := TX13) (N := 20) hx hb hg inG13 hown hK hP 0 rfl rfl 16 (by decide) (hg _ wd_769) (fun _ h9 => h9) rfl dX13_bear_217 ?_
                            refine lv_aload hx hb dX13_bear_220 (lv_at hl 3 rfl) ?_
                            refine lv_iload hx hb dX13_bear_222 (lv_at hl 1 rfl) ?_
                            refine lv_if_eq (tgt := 236) hx hb dX13_bear_224 (by decide) (fun c_493 => absurd c_493 (by decide)) (fun _ => ?_)
                            refine lv_aload hx hb dX13_bear_227 (lv_at hl 3 rfl) ?_
                            refine lv_iload_n hx hb dX13_bear_229 rfl (lv_at hl 6 rfl) ?_
                            have hPc : va_P D vwCl ([] ++ va_pl L M_484) H_483 := hP.part (cx := []) [] rfl
                            have hDc : va_D A ([] ++ va_pl L M_484) := hD.part (cx := []) [] (by decide) rfl
                            have hFc : ∀ q, va_A ([] ++ va_pl L M_484) H_483.size q → A q := pg_free hDc hS hA
                            refine va_calli (va_runV (As := [.int k2]) (rest := [.ref b11, .int (nI zgw36), .ref z12]) ⟨hx, hb, hml, hown, hg⟩ (r_ruleOnP l D cy K L M_484 H_483.size b11 k2  hW hb_13 (RLD.of hW (RLI.fr hW0 hRL hF (by decide) (by decide)) hb_13 hM_486 hv15 (by omega) hc15 hv24 (Int32.not_lt.mp c_25))) (cwV 1 hg (gV wd_815 wd_816 wd_817 wd_737 wd_818) rfl rfl rfl (by decide +kernel) ⟨(Nat.le_trans (Nat.le_of_ble_eq_true rfl) hRf), (Nat.le_trans (Nat.le_of_ble_eq_true rfl) hRl)⟩) ⟨PG.blind, pg_recv hK hP hb_13.1 hM_486 rfl, fun U hU hW => ⟨rfl, PG.at hPc hK hDc hN hU hW⟩⟩ rfl rfl hl.1 rfl (lv_room (Nat.le_of_ble_eq_true rfl)) dX13_bear_230 ⟨(Nat.le_trans (Nat.le_of_ble_eq_true rfl) hRc), (Nat.le_trans (Nat.le_of_ble_eq_true rfl) hRs)⟩) hS (fun q _ h => hFc q h) hFc (fun r_495 M_496 t H_494 locs ht hvm hw hB hz1 hk1 hS => ?_)
                            have hp_497 := hw
                            obtain ⟨hP1, hD1⟩ := hB
                            rw [ht] at hP1
                            obtain ⟨hP, hD⟩ := va_joinP (X := [(za, .inr (13, [.int 0, .ref z1, .int (nI z2), .int (nI z3), .int z4, .int z5, .ref z6, .ref z7, .ref z8, .ref z9, .int (nI z10), .ref z11, .ref z12, .ref z13, .ref z14, .ref z15, .int (nI zgw36), .ref z17, .int z18, .ref z19]))]) (cx := []) (wr := [(za, .inr (13, [.int 0, .ref z1, .int (nI z2), .int (nI z3), .int z4, .int z5, .ref z6, .ref z7, .ref z8, .ref z9, .int (nI z10), .ref z11, .ref z12, .ref z13, .ref z14, .ref z15, .int (nI zgw36), .ref z17, .int z18, .ref z19]))]) (rx := []) (pl := va_pl L M_484) (pl1 := va_pl L M_484) hP hD [] [0] rfl rfl (by decide) (by decide) hk1 hFc hP1 hD1
                            have hP : va_P D vwCl ([(za, .inr (13, [.int 0, .ref z1, .int (nI z2), .int (nI z3), .int z4, .int z5, .ref z6, .ref z7, .ref z8, .ref z9, .int (nI z10), .ref z11, .ref z12, .ref z13, .ref z14, .ref z15, .int (nI zgw36), .ref z17, .int z18, .ref z19]))] ++ va_pl L M_484) H_494 := hP
                            have hD : va_D A ([(za, .inr (13, [.int 0, .ref z1, .int (nI z2), .int (nI z3), .int z4, .int z5, .ref z6, .ref z7, .ref z8, .ref z9, .int (nI z10), .ref z11, .ref z12, .ref z13, .ref z14, .ref z15, .int (nI zgw36), .ref z17, .int z18, .ref z19]))] ++ va_pl L M_484) := hD
                            obtain ⟨j_498, rfl, c_499⟩ := hp_497
                            refine lv_goto (tgt := 243) hx hb dX13_bear_233 (by decide) ?_
                            refine lv_iconst (v := 3) hx hb dX13_bear_243 (by decide) ?_
                            refine lv_aload hx hb dX13_bear_244 (lv_at hl 3 rfl) ?_
                            obtain ⟨v500, hv500, hc500⟩ : ∃ v : Nat, fs14[20]? = some (.ref v : Value) ∧ isk K L v 31 24 := hl14 20 (by decide)
                            refine pg_getN (D := D) (ci := 12) (v := .ref v500) (C := RX12) (T := TX12) (N := 51) hx hb hg inG12 hown hK hP hb_13.1 hM_486 rfl 20 (by decide) (hN.use (Cond.fieldLinkNest RX13 110 RX12 "where" "[I" RX13) 29 rfl rfl) (fun _ h9 => h9) hv500 dX13_bear_246 ?_
                            refine lv_iload hx hb dX13_bear_249 (lv_at hl 2 rfl) ?_
                            obtain ⟨f501, hM501, hf501⟩ := hW.open_31 hc500
                            have hi_502 : vp_in (nI v5w36) 24 := (inbN v5w36 24 (by omega) (by omega))
                            refine pg_iald hx hb hK hP hc500.1 0 hM501 rfl hi_502 dX13_bear_251 ?_
                            have hp_503 := hf501 _ (vp_lt hi_502)
                            obtain ⟨c_504, hc_505, ec_506⟩ := hp_503
                            rw [ec_506]
                            have hPc : va_P D vwCl ([] ++ va_pl L M_484) H_494 := hP.part (cx := []) [] rfl
                            have hDc : va_D A ([] ++ va_pl L M_484) := hD.part (cx := []) [] (by decide) rfl
                            have hFc : ∀ q, va_A ([] ++ va_pl L M_484) H_494.size q → A q := pg_free hDc hS hA
                            refine va_calli (va_runV (As := [.int (nI j_498), .int 3, .int (nI c_504)]) (rest := [.int (nI zgw36), .ref z12]) ⟨hx, hb, hml, hown, hg⟩ (r_X12_term l D cy K L M_484 H_494.size b11 j_498 3 c_504  hW hb_13 c_499 (by omega) hc_505) (cwV 3 hg (gV wd_770 wd_771 wd_772 wd_737 wd_773) rfl rfl rfl (by decide +kernel) ⟨(Nat.le_trans (Nat.le_of_ble_eq_true rfl) hRf), (Nat.le_trans (Nat.le_of_ble_eq_true rfl) hRl)⟩) ⟨PG.blind, pg_recv hK hP hb_13.1 hM_486 rfl, fun U hU hW => ⟨rfl, PG.at hPc hK hDc hN hU hW⟩⟩ rfl rfl hl.1 rfl (lv_room (Nat.le_of_ble_eq_true rfl)) dX13_bear_252 ⟨(Nat.le_trans (Nat.le_of_ble_eq_true rfl) hRc), (Nat.le_trans (Nat.le_of_ble_eq_true rfl) hRs)⟩) hS (fun q _ h => hFc q h) hFc (fun r_508 M_509 t H_507 locs ht hvm hw hB hz1 hk1 hS => ?_)
                            have hp_510 := hw
                            obtain ⟨hP1, hD1⟩ := hB
                            rw [ht] at hP1
                            obtain ⟨hP, hD⟩ := va_joinP (X := [(za, .inr (13, [.int 0, .ref z1, .int (nI z2), .int (nI z3), .int z4, .int z5, .ref z6, .ref z7, .ref z8, .ref z9, .int (nI z10), .ref z11, .ref z12, .ref z13, .ref z14, .ref z15, .int (nI zgw36), .ref z17, .int z18, .ref z19]))]) (cx := []) (wr := [(za, .inr (13, [.int 0, .ref z1, .int (nI z2), .int (nI z3), .int z4, .int z5, .ref z6, .ref z7, .ref z8, .ref z9, .int (nI z10), .ref z11, .ref z12, .ref z13, .ref z14, .ref z15, .int (nI zgw36), .ref z17, .int z18, .ref z19]))]) (rx := []) (pl := va_pl L M_484) (pl1 := va_pl L M_484) hP hD [] [0] rfl rfl (by decide) (by decide) hk1 hFc hP1 hD1
                            have hP : va_P D vwCl ([(za, .inr (13, [.int 0, .ref z1, .int (nI z2), .int (nI z3), .int z4, .int z5, .ref z6, .ref z7, .ref z8, .ref z9, .int (nI z10), .ref z11, .ref z12, .ref z13, .ref z14, .ref z15, .int (nI zgw36), .ref z17, .int z18, .ref z19]))] ++ va_pl L M_484) H_507 := hP
                            have hD : va_D A ([(za, .inr (13, [.int 0, .ref z1, .int (nI z2), .int (nI z3), .int z4, .int z5, .ref z6, .ref z7, .ref z8, .ref z9, .int (nI z10), .ref z11, .ref z12, .ref z13, .ref z14, .ref z15, .int (nI zgw36), .ref z17, .int z18, .ref z19]))] ++ va_pl L M_484) := hD
                            obtain ⟨f511, hM511⟩ := hW.open_14 i12
                            refine pg_iast hx hb hK hP hD hS i12.1 0 hM511 rfl (inbN zgw36 24 (by omega) (by omega)) dX13_bear_255 (fun H_512 locs hP hD hS => ?_)
                            obtain ⟨M_513, eM_513⟩ : ∃ M1 : Hp, M1 = va_up M_484 z12 (.inl (cy 14, 24, .inl (upd f511 ((nI zgw36) : Int32).toNatClampNeg r_508))) := ⟨_, rfl⟩
                            have hP : va_P D vwCl ([(za, .inr (13, [.int 0, .ref z1, .int (nI z2), .int (nI z3), .int z4, .int z5, .ref z6, .ref z7, .ref z8, .ref z9, .int (nI z10), .ref z11, .ref z12, .ref z13, .ref z14, .ref z15, .int (nI zgw36), .ref z17, .int z18, .ref z19]))] ++ va_pl L M_513) H_512 := by rw [eM_513]; exact hP
                            have hD : va_D A ([(za, .inr (13, [.int 0, .ref z1, .int (nI z2), .int (nI z3), .int z4, .int z5, .ref z6, .ref z7, .ref z8, .ref z9, .int (nI z10), .ref z11, .ref z12, .ref z13, .ref z14, .ref z15, .int (nI zgw36), .ref z17, .int z18, .ref z19]))] ++ va_pl L M_513) := by rw [eM_513]; exact hD
                            have hW : WOM cy K L M_513 := by rw [eM_513]; exact hW.up_14 i12 ⟨_, rfl⟩
                            have hF : fr K L [14, 15, 32] M M_513 := by rw [eM_513]; exact hF.up i12 (by decide)
                            have hM_514 : M_513 z12 = .inl (cy 14, 24, .inl (upd f511 ((nI zgw36) : Int32).toNatClampNeg r_508)) := by rw [eM_513]; exact va_up_self _ _ _
                            have hM_515 : M_513 z11 = .inl (cy 14, 24, .inl (f_491)) := by rw [eM_513, va_up_ne _ _ (i11.neT i12 (by decide))]; exact hM_485
                            have hM_516 : M_513 b11 = .inr (12, fs14) := by rw [eM_513, va_up_ne _ _ (hb_13.neT i12 (by decide))]; exact hM_486
                            have hM_517 : M_513 v109 = .inl (cy 14, 24, .inl (f110)) := by rw [eM_513, va_up_ne _ _ (hc109.neT i12 (by decide))]; exact hM_487
                            have hM_518 : M_513 v343 = .inl (cy 14, 24, .inl (f344)) := by rw [eM_513, va_up_ne _ _ (hc343.neT i12 (by decide))]; exact hM_488
                            have hM_519 : M_513 v418 = .inl (cy 14, 24, .inl (f419)) := by rw [eM_513, va_up_ne _ _ (hc418.neT i12 (by decide))]; exact hM_489
                            have hM_520 : M_513 v476 = .inl (cy 16, 24, .inl (f477)) := by rw [eM_513, va_up_ne _ _ (hc476.neT i12 (by decide))]; exact hM_490
                            have hM_521 : M_513 v500 = .inl (cy 14, 24, .inl (f501)) := by rw [eM_513, va_up_ne _ _ (hc500.neT i12 (by decide))]; exact hM501
                            obtain ⟨f_522, ef_522⟩ : ∃ f : Nat → Int32, f = upd f511 ((nI zgw36) : Int32).toNatClampNeg r_508 := ⟨_, rfl⟩
                            rw [← ef_522] at hM_514
                            clear ef_522
                            refine lv_aload_n hx hb dX13_bear_256 rfl (lv_at hl 4 rfl) ?_
                            refine va_get (D := D) (ci := 13) (v := .ref z13) (C := RX13) (T := TX13) (N := 20) hx hb hg inG13 hown hK hP 0 rfl rfl 13 (by decide) (hg _ wd_789) (fun _ h9 => h9) rfl dX13_bear_257 ?_
                            refine lv_aload_n hx hb dX13_bear_260 rfl (lv_at hl 4 rfl) ?_
                            refine va_get (D := D) (ci := 13) (v := .int (nI zgw36)) (C := RX13) (T := TX13) (N := 20) hx hb hg inG13 hown hK hP 0 rfl rfl 16 (by decide) (hg _ wd_769) (fun _ h9 => h9) rfl dX13_bear_261 ?_
                            refine lv_lconst (v := 0) hx hb dX13_bear_264 (by decide) ?_
                            obtain ⟨f523, hM523⟩ := hW.open_15 i13
                            refine pg_last hx hb hK hP hD hS i13.1 1 hM523 rfl (inbN zgw36 24 (by omega) (by omega)) dX13_bear_265 (fun H_524 locs hP hD hS => ?_)
                            obtain ⟨M_525, eM_525⟩ : ∃ M1 : Hp, M1 = va_up M_513 z13 (.inl (cy 15, 24, .inr (.inl (vp_updL f523 ((nI zgw36) : Int32).toNatClampNeg 0)))) := ⟨_, rfl⟩
                            have hP : va_P D vwCl ([(za, .inr (13, [.int 0, .ref z1, .int (nI z2), .int (nI z3), .int z4, .int z5, .ref z6, .ref z7, .ref z8, .ref z9, .int (nI z10), .ref z11, .ref z12, .ref z13, .ref z14, .ref z15, .int (nI zgw36), .ref z17, .int z18, .ref z19]))] ++ va_pl L M_525) H_524 := by rw [eM_525]; exact hP
                            have hD : va_D A ([(za, .inr (13, [.int 0, .ref z1, .int (nI z2), .int (nI z3), .int z4, .int z5, .ref z6, .ref z7, .ref z8, .ref z9, .int (nI z10), .ref z11, .ref z12, .ref z13, .ref z14, .ref z15, .int (nI zgw36), .ref z17, .int z18, .ref z19]))] ++ va_pl L M_525) := by rw [eM_525]; exact hD
                            have hW : WOM cy K L M_525 := by rw [eM_525]; exact hW.up_15 i13 ⟨_, rfl⟩
                            have hF : fr K L [14, 15, 32] M M_525 := by rw [eM_525]; exact hF.up i13 (by decide)
                            have hM_526 : M_525 z13 = .inl (cy 15, 24, .inr (.inl (vp_updL f523 ((nI zgw36) : Int32).toNatClampNeg 0))) := by rw [eM_525]; exact va_up_self _ _ _
                            have hM_527 : M_525 z12 = .inl (cy 14, 24, .inl (f_522)) := by rw [eM_525, va_up_ne _ _ (i12.neT i13 (by decide))]; exact hM_514
                            have hM_528 : M_525 z11 = .inl (cy 14, 24, .inl (f_491)) := by rw [eM_525, va_up_ne _ _ (i11.neT i13 (by decide))]; exact hM_515
                            have hM_529 : M_525 b11 = .inr (12, fs14) := by rw [eM_525, va_up_ne _ _ (hb_13.neT i13 (by decide))]; exact hM_516
                            have hM_530 : M_525 v109 = .inl (cy 14, 24, .inl (f110)) := by rw [eM_525, va_up_ne _ _ (hc109.neT i13 (by decide))]; exact hM_517
                            have hM_531 : M_525 v343 = .inl (cy 14, 24, .inl (f344)) := by rw [eM_525, va_up_ne _ _ (hc343.neT i13 (by decide))]; exact hM_518
                            have hM_532 : M_525 v418 = .inl (cy 14, 24, .inl (f419)) := by rw [eM_525, va_up_ne _ _ (hc418.neT i13 (by decide))]; exact hM_519
                            have hM_533 : M_525 v476 = .inl (cy 16, 24, .inl (f477)) := by rw [eM_525, va_up_ne _ _ (hc476.neT i13 (by decide))]; exact hM_520
                            have hM_534 : M_525 v500 = .inl (cy 14, 24, .inl (f501)) := by rw [eM_525, va_up_ne _ _ (hc500.neT i13 (by decide))]; exact hM_521
                            obtain ⟨f_535, ef_535⟩ : ∃ f : Nat → Int64, f = vp_updL f523 ((nI zgw36) : Int32).toNatClampNeg 0 := ⟨_, rfl⟩
                            rw [← ef_535] at hM_526
                            clear ef_535
                            refine lv_aload_n hx hb dX13_bear_266 rfl (lv_at hl 4 rfl) ?_
                            refine lv_dup hx hb dX13_bear_267 rfl ?_
                            refine va_get (D := D) (ci := 13) (v := .int (nI zgw36)) (C := RX13) (T := TX13) (N := 20) hx hb hg inG13 hown hK hP 0 rfl rfl 16 (by decide) (hg _ wd_769) (fun _ h9 => h9) rfl dX13_bear_268 ?_
                            refine lv_iconst (v := 1) hx hb dX13_bear_271 (by decide) ?_
                            refine lv_iadd hx hb dX13_bear_272 ?_
                            refine lv_topi (fun f_536 ef_536 => ?_)
                            obtain rfl : f_536 = (nI (zgw36 + 1)) := ef_536.trans (nI_add zgw36 1)
                            refine va_put (D := D) (ci := 13) (v := .int (nI (zgw36 + 1))) (ty := .int) (C := RX13) (T := TX13) (N := 20) hx hb hg inG13 tyX13 tyX13_ok nmX13 hown hK hP hD hS 0 rfl rfl 16 (by decide) (hg _ wd_769) (fun _ h9 => h9) rfl (by decide +kernel) rfl rfl (Nat.le_of_ble_eq_true rfl) dX13_bear_273 (fun H_537 locs hP hD hS => ?_)
                            have hP : va_P D vwCl ([(za, .inr (13, [.int 0, .ref z1, .int (nI z2), .int (nI z3), .int z4, .int z5, .ref z6, .ref z7, .ref z8, .ref z9, .int (nI z10), .ref z11, .ref z12, .ref z13, .ref z14, .ref z15, .int (nI (zgw36 + 1)), .ref z17, .int z18, .ref z19]))] ++ va_pl L M_525) H_537 := hP
                            have hD : va_D A ([(za, .inr (13, [.int 0, .ref z1, .int (nI z2), .int (nI z3), .int z4, .int z5, .ref z6, .ref z7, .ref z8, .ref z9, .int (nI z10), .ref z11, .ref z12, .ref z13, .ref z14, .ref z15, .int (nI (zgw36 + 1)), .ref z17, .int z18, .ref z19]))] ++ va_pl L M_525) := hD
                            refine lv_iinc (v := (nI (v5w36 + 1))) (lv' := [(5, .int (nI (v5w36 + 1))), (7, .int 0), (6, .int 1), (4, .ref b11), (0, .ref za), (1, .int k1), (2, .int k2), (3, .int k3)]) hx hb dX13_bear_276 hl (k := 2) rfl (nI_1 v5w36) (by decide) rfl (fun ls hl => ?_)
                            refine lv_goto (tgt := 82) hx hb dX13_bear_279 (by decide) ?_
                            exact ih_34 (v5w36 + 1) (zgw36 + 1) M_525 H_537 _ _ (by omega) hM_529 (by omega) (by omega) hW hF hP hD hS (lv_sub hl [0, 3, 4, 5, 6, 7] rfl)
                          · rw [ec_479]
                            refine lv_if_eq (tgt := 185) hx hb dX13_bear_166 (by decide) (fun c_538 => absurd c_538 (by decide)) (fun _ => ?_)
                            refine lv_aload hx hb dX13_bear_169 (lv_at hl 2 rfl) ?_
                            refine pg_getN (D := D) (ci := 12) (v := .ref v109) (C := RX12) (T := TX12) (N := 51) hx hb hg inG12 hown hK hP hb_13.1 hM_41 rfl 22 (by decide) (hN.use (Cond.fieldLinkNest RX13 95 RX12 "ended" "[I" RX13) 31 rfl rfl) (fun _ h9 => h9) hv109 dX13_bear_171 ?_
                            refine lv_iload hx hb dX13_bear_174 (lv_at hl 1 rfl) ?_
                            refine pg_iald hx hb hK hP hc109.1 0 hM110 rfl (inbN v5w36 24 (by omega) (by omega)) dX13_bear_176 ?_
                            refine lv_topi (fun f_539 ef_539 => ?_)
                            refine lv_iconst (v := (-1)) hx hb dX13_bear_177 (by decide) ?_
                            refine lv_icmp_ne (tgt := 185) hx hb dX13_bear_178 (by decide) (fun c_540 => ?_) (fun c_540 => ?_)
                            · have hz := rfl (a := 0)
                              refine lv_iconst (v := 0) hx hb dX13_bear_185 (by decide) ?_
                              refine lv_istore (lv' := [(7, .int 0), (6, .int 1), (5, .int (nI v5w36)), (4, .ref b11), (0, .ref za), (1, .int k1), (2, .int k2), (3, .int k3)]) hx hb dX13_bear_186 hl (by decide) rfl (fun ls hl => ?_)
                              refine lv_iload hx hb dX13_bear_188 (lv_at hl 1 rfl) ?_
                              refine lv_if_ne (tgt := 201) hx hb dX13_bear_190 (by decide) (fun _ => ?_) (fun c_541 => absurd c_541 (by decide))
                              refine lv_aload_n hx hb dX13_bear_201 rfl (lv_at hl 4 rfl) ?_
                              refine va_get (D := D) (ci := 13) (v := .ref z11) (C := RX13) (T := TX13) (N := 20) hx hb hg inG13 hown hK hP 0 rfl rfl 11 (by decide) (hg _ wd_764) (fun _ h9 => h9) rfl dX13_bear_202 ?_
                              refine lv_aload_n hx hb dX13_bear_205 rfl (lv_at hl 4 rfl) ?_
                              refine va_get (D := D) (ci := 13) (v := .int (nI zgw36)) (C := RX13) (T := TX13) (N := 20) hx hb hg inG13 hown hK hP 0 rfl rfl 16 (by decide) (hg _ wd_769) (fun _ h9 => h9) rfl dX13_bear_206 ?_
                              refine lv_iload hx hb dX13_bear_209 (lv_at hl 2 rfl) ?_
                              obtain ⟨f542, hM542, hf542⟩ := hW.open_32 i11
                              refine pg_iast hx hb hK hP hD hS i11.1 0 hM542 rfl (inbN zgw36 24 (by omega) (by omega)) dX13_bear_211 (fun H_543 locs hP hD hS => ?_)
                              obtain ⟨M_544, eM_544⟩ : ∃ M1 : Hp, M1 = va_up M_39 z11 (.inl (cy 14, 24, .inl (upd f542 ((nI zgw36) : Int32).toNatClampNeg (nI v5w36)))) := ⟨_, rfl⟩
                              have hP : va_P D vwCl ([(za, .inr (13, [.int 0, .ref z1, .int (nI z2), .int (nI z3), .int z4, .int z5, .ref z6, .ref z7, .ref z8, .ref z9, .int (nI z10), .ref z11, .ref z12, .ref z13, .ref z14, .ref z15, .int (nI zgw36), .ref z17, .int z18, .ref z19]))] ++ va_pl L M_544) H_543 := by rw [eM_544]; exact hP
                              have hD : va_D A ([(za, .inr (13, [.int 0, .ref z1, .int (nI z2), .int (nI z3), .int z4, .int z5, .ref z6, .ref z7, .ref z8, .ref z9, .int (nI z10), .ref z11, .ref z12, .ref z13, .ref z14, .ref z15, .int (nI zgw36), .ref z17, .int z18, .ref z19]))] ++ va_pl L M_544) := by rw [eM_544]; exact hD
                              have hW : WOM cy K L M_544 := by rw [eM_544]; exact hW.up_32 i11 ⟨_, rfl, (updP (P := fun z => ∃ c : Nat, c < 24 ∧ z = nI c) hf542 ⟨v5w36, by omega, rfl⟩)⟩
                              have hF : fr K L [14, 15, 32] M M_544 := by rw [eM_544]; exact hF.up i11 (by decide)
                              have hM_545 : M_544 z11 = .inl (cy 14, 24, .inl (upd f542 ((nI zgw36) : Int32).toNatClampNeg (nI v5w36))) := by rw [eM_544]; exact va_up_self _ _ _
                              have hM_546 : M_544 b11 = .inr (12, fs14) := by rw [eM_544, va_up_ne _ _ (hb_13.neT i11 (by decide))]; exact hM_41
                              have hM_547 : M_544 v109 = .inl (cy 14, 24, .inl (f110)) := by rw [eM_544, va_up_ne _ _ (hc109.neT i11 (by decide))]; exact hM110
                              have hM_548 : M_544 v343 = .inl (cy 14, 24, .inl (f344)) := by rw [eM_544, va_up_ne _ _ (hc343.neT i11 (by decide))]; exact hM344
                              have hM_549 : M_544 v418 = .inl (cy 14, 24, .inl (f419)) := by rw [eM_544, va_up_ne _ _ (hc418.neT i11 (by decide))]; exact hM419
                              have hM_550 : M_544 v476 = .inl (cy 16, 24, .inl (f477)) := by rw [eM_544, va_up_ne _ _ (hc476.neT i11 (by decide))]; exact hM477
                              have hf_552 : ∀ j, j < 24 → ∃ c : Nat, c < 24 ∧ (upd f542 ((nI zgw36) : Int32).toNatClampNeg (nI v5w36)) j = nI c := (updP (P := fun z => ∃ c : Nat, c < 24 ∧ z = nI c) hf542 ⟨v5w36, by omega, rfl⟩)
                              obtain ⟨f_551, ef_551⟩ : ∃ f : Nat → Int32, f = upd f542 ((nI zgw36) : Int32).toNatClampNeg (nI v5w36) := ⟨_, rfl⟩
                              rw [← ef_551] at hM_545 hf_552
                              clear ef_551
                              refine lv_aload_n hx hb dX13_bear_212 rfl (lv_at hl 4 rfl) ?_
                              refine va_get (D := D) (ci := 13) (v := .ref z12) (C := RX13) (T := TX13) (N := 20) hx hb hg inG13 hown hK hP 0 rfl rfl 12 (by decide) (hg _ wd_763) (fun _ h9 => h9) rfl dX13_bear_213 ?_
                              refine lv_aload_n hx hb dX13_bear_216 rfl (lv_at hl 4 rfl) ?_
                              refine va_get (D := D) (ci := 13) (v := .int (nI zgw36)) (C := RX13) (T := TX13) (N := 20) hx hb hg inG13 hown hK hP 0 rfl rfl 16 (by decide) (hg _ wd_769) (fun _ h9 => h9) rfl dX13_bear_217 ?_
                              refine lv_aload hx hb dX13_bear_220 (lv_at hl 3 rfl) ?_
                              refine lv_iload hx hb dX13_bear_222 (lv_at hl 1 rfl) ?_
                              refine lv_if_eq (tgt := 236) hx hb dX13_bear_224 (by decide) (fun c_553 => absurd c_553 (by decide)) (fun _ => ?_)
                              refine lv_aload hx hb dX13_bear_227 (lv_at hl 3 rfl) ?_
                              refine lv_iload_n hx hb dX13_bear_229 rfl (lv_at hl 6 rfl) ?_
                              have hPc : va_P D vwCl ([] ++ va_pl L M_544) H_543 := hP.part (cx := []) [] rfl
                              have hDc : va_D A ([] ++ va_pl L M_544) := hD.part (cx := []) [] (by decide) rfl
                              have hFc : ∀ q, va_A ([] ++ va_pl L M_544) H_543.size q → A q := pg_free hDc hS hA
                              refine va_calli (va_runV (As := [.int k2]) (rest := [.ref b11, .int (nI zgw36), .ref z12]) ⟨hx, hb, hml, hown, hg⟩ (r_ruleOnP l D cy K L M_544 H_543.size b11 k2  hW hb_13 (RLD.of hW (RLI.fr hW0 hRL hF (by decide) (by decide)) hb_13 hM_546 hv15 (by omega) hc15 hv24 (Int32.not_lt.mp c_25))) (cwV 1 hg (gV wd_815 wd_816 wd_817 wd_737 wd_818) rfl rfl rfl (by decide +kernel) ⟨(Nat.le_trans (Nat.le_of_ble_eq_true rfl) hRf), (Nat.le_trans (Nat.le_of_ble_eq_true rfl) hRl)⟩) ⟨PG.blind, pg_recv hK hP hb_13.1 hM_546 rfl, fun U hU hW => ⟨rfl, PG.at hPc hK hDc hN hU hW⟩⟩ rfl rfl hl.1 rfl (lv_room (Nat.le_of_ble_eq_true rfl)) dX13_bear_230 ⟨(Nat.le_trans (Nat.le_of_ble_eq_true rfl) hRc), (Nat.le_trans (Nat.le_of_ble_eq_true rfl) hRs)⟩) hS (fun q _ h => hFc q h) hFc (fun r_555 M_556 t H_554 locs ht hvm hw hB hz1 hk1 hS => ?_)
                              have hp_557 := hw
                              obtain ⟨hP1, hD1⟩ := hB
                              rw [ht] at hP1
                              obtain ⟨hP, hD⟩ := va_joinP (X := [(za, .inr (13, [.int 0, .ref z1, .int (nI z2), .int (nI z3), .int z4, .int z5, .ref z6, .ref z7, .ref z8, .ref z9, .int (nI z10), .ref z11, .ref z12, .ref z13, .ref z14, .ref z15, .int (nI zgw36), .ref z17, .int z18, .ref z19]))]) (cx := []) (wr := [(za, .inr (13, [.int 0, .ref z1, .int (nI z2), .int (nI z3), .int z4, .int z5, .ref z6, .ref z7, .ref z8, .ref z9, .int (nI z10), .ref z11, .ref z12, .ref z13, .ref z14, .ref z15, .int (nI zgw36), .ref z17, .int z18, .ref z19]))]) (rx := []) (pl := va_pl L M_544) (pl1 := va_pl L M_544) hP hD [] [0] rfl rfl (by decide) (by decide) hk1 hFc hP1 hD1
                              have hP : va_P D vwCl ([(za, .inr (13, [.int 0, .ref z1, .int (nI z2), .int (nI z3), .int z4, .int z5, .ref z6, .ref z7, .ref z8, .ref z9, .int (nI z10), .ref z11, .ref z12, .ref z13, .ref z14, .ref z15, .int (nI zgw36), .ref z17, .int z18, .ref z19]))] ++ va_pl L M_544) H_554 := hP
                              have hD : va_D A ([(za, .inr (13, [.int 0, .ref z1, .int (nI z2), .int (nI z3), .int z4, .int z5, .ref z6, .ref z7, .ref z8, .ref z9, .int (nI z10), .ref z11, .ref z12, .ref z13, .ref z14, .ref z15, .int (nI zgw36), .ref z17, .int z18, .ref z19]))] ++ va_pl L M_544) := hD
                              obtain ⟨j_558, rfl, c_559⟩ := hp_557
                              refine lv_goto (tgt := 243) hx hb dX13_bear_233 (by decide) ?_
                              refine lv_iconst (v := 3) hx hb dX13_bear_243 (by decide) ?_
                              refine lv_aload hx hb dX13_bear_244 (lv_at hl 3 rfl) ?_
                              obtain ⟨v560, hv560, hc560⟩ : ∃ v : Nat, fs14[20]? = some (.ref v : Value) ∧ isk K L v 31 24 := hl14 20 (by decide)
                              refine pg_getN (D := D) (ci := 12) (v := .ref v560) (C := RX12) (T := TX12) (N := 51) hx hb hg inG12 hown hK hP hb_13.1 hM_546 rfl 20 (by decide) (hN.use (Cond.fieldLinkNest RX13 110 RX12 "where" "[I" RX13) 29 rfl rfl) (fun _ h9 => h9) hv560 dX13_bear_246 ?_
                              refine lv_iload hx hb dX13_bear_249 (lv_at hl 2 rfl) ?_
                              obtain ⟨f561, hM561, hf561⟩ := hW.open_31 hc560
                              have hi_562 : vp_in (nI v5w36) 24 := (inbN v5w36 24 (by omega) (by omega))
                              refine pg_iald hx hb hK hP hc560.1 0 hM561 rfl hi_562 dX13_bear_251 ?_
                              have hp_563 := hf561 _ (vp_lt hi_562)
                              obtain ⟨c_564, hc_565, ec_566⟩ := hp_563
                              rw [ec_566]
                              have hPc : va_P D vwCl ([] ++ va_pl L M_544) H_554 := hP.part (cx := []) [] rfl
                              have hDc : va_D A ([] ++ va_pl L M_544) := hD.part (cx := []) [] (by decide) rfl
                              have hFc : ∀ q, va_A ([] ++ va_pl L M_544) H_554.size q → A q := pg_free hDc hS hA
                              refine va_calli (va_runV (As := [.int (nI j_558), .int 3, .int (nI c_564)]) (rest := [.int (nI zgw36), .ref z12]) ⟨hx, hb, hml, hown, hg⟩ (r_X12_term l D cy K L M_544 H_554.size b11 j_558 3 c_564  hW hb_13 c_559 (by omega) hc_565) (cwV 3 hg (gV wd_770 wd_771 wd_772 wd_737 wd_773) rfl rfl rfl (by decide +kernel) ⟨(Nat.le_trans (Nat.le_of_ble_eq_true rfl) hRf), (Nat.le_trans (Nat.le_of_ble_eq_true rfl) hRl)⟩) ⟨PG.blind, pg_recv hK hP hb_13.1 hM_546 rfl, fun U hU hW => ⟨rfl, PG.at hPc hK hDc hN hU hW⟩⟩ rfl rfl hl.1 rfl (lv_room (Nat.le_of_ble_eq_true rfl)) dX13_bear_252 ⟨(Nat.le_trans (Nat.le_of_ble_eq_true rfl) hRc), (Nat.le_trans (Nat.le_of_ble_eq_true rfl) hRs)⟩) hS (fun q _ h => hFc q h) hFc (fun r_568 M_569 t H_567 locs ht hvm hw hB hz1 hk1 hS => ?_)
                              have hp_570 := hw
                              obtain ⟨hP1, hD1⟩ := hB
                              rw [ht] at hP1
                              obtain ⟨hP, hD⟩ := va_joinP (X := [(za, .inr (13, [.int 0, .ref z1, .int (nI z2), .int (nI z3), .int z4, .int z5, .ref z6, .ref z7, .ref z8, .ref z9, .int (nI z10), .ref z11, .ref z12, .ref z13, .ref z14, .ref z15, .int (nI zgw36), .ref z17, .int z18, .ref z19]))]) (cx := []) (wr := [(za, .inr (13, [.int 0, .ref z1, .int (nI z2), .int (nI z3), .int z4, .int z5, .ref z6, .ref z7, .ref z8, .ref z9, .int (nI z10), .ref z11, .ref z12, .ref z13, .ref z14, .ref z15, .int (nI zgw36), .ref z17, .int z18, .ref z19]))]) (rx := []) (pl := va_pl L M_544) (pl1 := va_pl L M_544) hP hD [] [0] rfl rfl (by decide) (by decide) hk1 hFc hP1 hD1
                              have hP : va_P D vwCl ([(za, .inr (13, [.int 0, .ref z1, .int (nI z2), .int (nI z3), .int z4, .int z5, .ref z6, .ref z7, .ref z8, .ref z9, .int (nI z10), .ref z11, .ref z12, .ref z13, .ref z14, .ref z15, .int (nI zgw36), .ref z17, .int z18, .ref z19]))] ++ va_pl L M_544) H_567 := hP
                              have hD : va_D A ([(za, .inr (13, [.int 0, .ref z1, .int (nI z2), .int (nI z3), .int z4, .int z5, .ref z6, .ref z7, .ref z8, .ref z9, .int (nI z10), .ref z11, .ref z12, .ref z13, .ref z14, .ref z15, .int (nI zgw36), .ref z17, .int z18, .ref z19]))] ++ va_pl L M_544) := hD
                              obtain ⟨f571, hM571⟩ := hW.open_14 i12
                              refine pg_iast hx hb hK hP hD hS i12.1 0 hM571 rfl (inbN zgw36 24 (by omega) (by omega)) dX13_bear_255 (fun H_572 locs hP hD hS => ?_)
                              obtain ⟨M_573, eM_573⟩ : ∃ M1 : Hp, M1 = va_up M_544 z12 (.inl (cy 14, 24, .inl (upd f571 ((nI zgw36) : Int32).toNatClampNeg r_568))) := ⟨_, rfl⟩
                              have hP : va_P D vwCl ([(za, .inr (13, [.int 0, .ref z1, .int (nI z2), .int (nI z3), .int z4, .int z5, .ref z6, .ref z7, .ref z8, .ref z9, .int (nI z10), .ref z11, .ref z12, .ref z13, .ref z14, .ref z15, .int (nI zgw36), .ref z17, .int z18, .ref z19]))] ++ va_pl L M_573) H_572 := by rw [eM_573]; exact hP
                              have hD : va_D A ([(za, .inr (13, [.int 0, .ref z1, .int (nI z2), .int (nI z3), .int z4, .int z5, .ref z6, .ref z7, .ref z8, .ref z9, .int (nI z10), .ref z11, .ref z12, .ref z13, .ref z14, .ref z15, .int (nI zgw36), .ref z17, .int z18, .ref z19]))] ++ va_pl L M_573) := by rw [eM_573]; exact hD
                              have hW : WOM cy K L M_573 := by rw [eM_573]; exact hW.up_14 i12 ⟨_, rfl⟩
                              have hF : fr K L [14, 15, 32] M M_573 := by rw [eM_573]; exact hF.up i12 (by decide)
                              have hM_574 : M_573 z12 = .inl (cy 14, 24, .inl (upd f571 ((nI zgw36) : Int32).toNatClampNeg r_568)) := by rw [eM_573]; exact va_up_self _ _ _
                              have hM_575 : M_573 z11 = .inl (cy 14, 24, .inl (f_551)) := by rw [eM_573, va_up_ne _ _ (i11.neT i12 (by decide))]; exact hM_545
                              have hM_576 : M_573 b11 = .inr (12, fs14) := by rw [eM_573, va_up_ne _ _ (hb_13.neT i12 (by decide))]; exact hM_546
                              have hM_577 : M_573 v109 = .inl (cy 14, 24, .inl (f110)) := by rw [eM_573, va_up_ne _ _ (hc109.neT i12 (by decide))]; exact hM_547
                              have hM_578 : M_573 v343 = .inl (cy 14, 24, .inl (f344)) := by rw [eM_573, va_up_ne _ _ (hc343.neT i12 (by decide))]; exact hM_548
                              have hM_579 : M_573 v418 = .inl (cy 14, 24, .inl (f419)) := by rw [eM_573, va_up_ne _ _ (hc418.neT i12 (by decide))]; exact hM_549
                              have hM_580 : M_573 v476 = .inl (cy 16, 24, .inl (f477)) := by rw [eM_573, va_up_ne _ _ (hc476.neT i12 (by decide))]; exact hM_550
                              have hM_581 : M_573 v560 = .inl (cy 14, 24, .inl (f561)) := by rw [eM_573, va_up_ne _ _ (hc560.neT i12 (by decide))]; exact hM561
                              obtain ⟨f_582, ef_582⟩ : ∃ f : Nat → Int32, f = upd f571 ((nI zgw36) : Int32).toNatClampNeg r_568 := ⟨_, rfl⟩
                              rw [← ef_582] at hM_574
                              clear ef_582
                              refine lv_aload_n hx hb dX13_bear_256 rfl (lv_at hl 4 rfl) ?_
                              refine va_get (D := D) (ci := 13) (v := .ref z13) (C := RX13) (T := TX13) (N := 20) hx hb hg inG13 hown hK hP 0 rfl rfl 13 (by decide) (hg _ wd_789) (fun _ h9 => h9) rfl dX13_bear_257 ?_
                              refine lv_aload_n hx hb dX13_bear_260 rfl (lv_at hl 4 rfl) ?_
                              refine va_get (D := D) (ci := 13) (v := .int (nI zgw36)) (C := RX13) (T := TX13) (N := 20) hx hb hg inG13 hown hK hP 0 rfl rfl 16 (by decide) (hg _ wd_769) (fun _ h9 => h9) rfl dX13_bear_261 ?_
                              refine lv_lconst (v := 0) hx hb dX13_bear_264 (by decide) ?_
                              obtain ⟨f583, hM583⟩ := hW.open_15 i13
                              refine pg_last hx hb hK hP hD hS i13.1 1 hM583 rfl (inbN zgw36 24 (by omega) (by omega)) dX13_bear_265 (fun H_584 locs hP hD hS => ?_)
                              obtain ⟨M_585, eM_585⟩ : ∃ M1 : Hp, M1 = va_up M_573 z13 (.inl (cy 15, 24, .inr (.inl (vp_updL f583 ((nI zgw36) : Int32).toNatClampNeg 0)))) := ⟨_, rfl⟩
                              have hP : va_P D vwCl ([(za, .inr (13, [.int 0, .ref z1, .int (nI z2), .int (nI z3), .int z4, .int z5, .ref z6, .ref z7, .ref z8, .ref z9, .int (nI z10), .ref z11, .ref z12, .ref z13, .ref z14, .ref z15, .int (nI zgw36), .ref z17, .int z18, .ref z19]))] ++ va_pl L M_585) H_584 := by rw [eM_585]; exact hP
                              have hD : va_D A ([(za, .inr (13, [.int 0, .ref z1, .int (nI z2), .int (nI z3), .int z4, .int z5, .ref z6, .ref z7, .ref z8, .ref z9, .int (nI z10), .ref z11, .ref z12, .ref z13, .ref z14, .ref z15, .int (nI zgw36), .ref z17, .int z18, .ref z19]))] ++ va_pl L M_585) := by rw [eM_585]; exact hD
                              have hW : WOM cy K L M_585 := by rw [eM_585]; exact hW.up_15 i13 ⟨_, rfl⟩
                              have hF : fr K L [14, 15, 32] M M_585 := by rw [eM_585]; exact hF.up i13 (by decide)
                              have hM_586 : M_585 z13 = .inl (cy 15, 24, .inr (.inl (vp_updL f583 ((nI zgw36) : Int32).toNatClampNeg 0))) := by rw [eM_585]; exact va_up_self _ _ _
                              have hM_587 : M_585 z12 = .inl (cy 14, 24, .inl (f_582)) := by rw [eM_585, va_up_ne _ _ (i12.neT i13 (by decide))]; exact hM_574
                              have hM_588 : M_585 z11 = .inl (cy 14, 24, .inl (f_551)) := by rw [eM_585, va_up_ne _ _ (i11.neT i13 (by decide))]; exact hM_575
                              have hM_589 : M_585 b11 = .inr (12, fs14) := by rw [eM_585, va_up_ne _ _ (hb_13.neT i13 (by decide))]; exact hM_576
                              have hM_590 : M_585 v109 = .inl (cy 14, 24, .inl (f110)) := by rw [eM_585, va_up_ne _ _ (hc109.neT i13 (by decide))]; exact hM_577
                              have hM_591 : M_585 v343 = .inl (cy 14, 24, .inl (f344)) := by rw [eM_585, va_up_ne _ _ (hc343.neT i13 (by decide))]; exact hM_578
                              have hM_592 : M_585 v418 = .inl (cy 14, 24, .inl (f419)) := by rw [eM_585, va_up_ne _ _ (hc418.neT i13 (by decide))]; exact hM_579
                              have hM_593 : M_585 v476 = .inl (cy 16, 24, .inl (f477)) := by rw [eM_585, va_up_ne _ _ (hc476.neT i13 (by decide))]; exact hM_580
                              have hM_594 : M_585 v560 = .inl (cy 14, 24, .inl (f561)) := by rw [eM_585, va_up_ne _ _ (hc560.neT i13 (by decide))]; exact hM_581
                              obtain ⟨f_595, ef_595⟩ : ∃ f : Nat → Int64, f = vp_updL f583 ((nI zgw36) : Int32).toNatClampNeg 0 := ⟨_, rfl⟩
                              rw [← ef_595] at hM_586
                              clear ef_595
                              refine lv_aload_n hx hb dX13_bear_266 rfl (lv_at hl 4 rfl) ?_
                              refine lv_dup hx hb dX13_bear_267 rfl ?_
                              refine va_get (D := D) (ci := 13) (v := .int (nI zgw36)) (C := RX13) (T := TX13) (N := 20) hx hb hg inG13 hown hK hP 0 rfl rfl 16 (by decide) (hg _ wd_769) (fun _ h9 => h9) rfl dX13_bear_268 ?_
                              refine lv_iconst (v := 1) hx hb dX13_bear_271 (by decide) ?_
                              refine lv_iadd hx hb dX13_bear_272 ?_
                              refine lv_topi (fun f_596 ef_596 => ?_)
                              obtain rfl : f_596 = (nI (zgw36 + 1)) := ef_596.trans (nI_add zgw36 1)
                              refine va_put (D := D) (ci := 13) (v := .int (nI (zgw36 + 1))) (ty := .int) (C := RX13) (T := TX13) (N := 20) hx hb hg inG13 tyX13 tyX13_ok nmX13 hown hK hP hD hS 0 rfl rfl 16 (by decide) (hg _ wd_769) (fun _ h9 => h9) rfl (by decide +kernel) rfl rfl (Nat.le_of_ble_eq_true rfl) dX13_bear_273 (fun H_597 locs hP hD hS => ?_)
                              have hP : va_P D vwCl ([(za, .inr (13, [.int 0, .ref z1, .int (nI z2), .int (nI z3), .int z4, .int z5, .ref z6, .ref z7, .ref z8, .ref z9, .int (nI z10), .ref z11, .ref z12, .ref z13, .ref z14, .ref z15, .int (nI (zgw36 + 1)), .ref z17, .int z18, .ref z19]))] ++ va_pl L M_585) H_597 := hP
                              have hD : va_D A ([(za, .inr (13, [.int 0, .ref z1, .int (nI z2), .int (nI z3), .int z4, .int z5, .ref z6, .ref z7, .ref z8, .ref z9, .int (nI z10), .ref z11, .ref z12, .ref z13, .ref z14, .ref z15, .int (nI (zgw36 + 1)), .ref z17, .int z18, .ref z19]))] ++ va_pl L M_585) := hD
                              refine lv_iinc (v := (nI (v5w36 + 1))) (lv' := [(5, .int (nI (v5w36 + 1))), (7, .int 0), (6, .int 1), (4, .ref b11), (0, .ref za), (1, .int k1), (2, .int k2), (3, .int k3)]) hx hb dX13_bear_276 hl (k := 2) rfl (nI_1 v5w36) (by decide) rfl (fun ls hl => ?_)
                              refine lv_goto (tgt := 82) hx hb dX13_bear_279 (by decide) ?_
                              exact ih_34 (v5w36 + 1) (zgw36 + 1) M_585 H_597 _ _ (by omega) hM_589 (by omega) (by omega) hW hF hP hD hS (lv_sub hl [0, 3, 4, 5, 6, 7] rfl)
                            · have hz := rfl (a := 0)
                              refine lv_iconst (v := 1) hx hb dX13_bear_181 (by decide) ?_
                              refine lv_goto (tgt := 186) hx hb dX13_bear_182 (by decide) ?_
                              refine lv_istore (lv' := [(7, .int 1), (6, .int 1), (5, .int (nI v5w36)), (4, .ref b11), (0, .ref za), (1, .int k1), (2, .int k2), (3, .int k3)]) hx hb dX13_bear_186 hl (by decide) rfl (fun ls hl => ?_)
                              refine lv_iload hx hb dX13_bear_188 (lv_at hl 1 rfl) ?_
                              refine lv_if_ne (tgt := 201) hx hb dX13_bear_190 (by decide) (fun _ => ?_) (fun c_598 => absurd c_598 (by decide))
                              refine lv_aload_n hx hb dX13_bear_201 rfl (lv_at hl 4 rfl) ?_
                              refine va_get (D := D) (ci := 13) (v := .ref z11) (C := RX13) (T := TX13) (N := 20) hx hb hg inG13 hown hK hP 0 rfl rfl 11 (by decide) (hg _ wd_764) (fun _ h9 => h9) rfl dX13_bear_202 ?_
                              refine lv_aload_n hx hb dX13_bear_205 rfl (lv_at hl 4 rfl) ?_
                              refine va_get (D := D) (ci := 13) (v := .int (nI zgw36)) (C := RX13) (T := TX13) (N := 20) hx hb hg inG13 hown hK hP 0 rfl rfl 16 (by decide) (hg _ wd_769) (fun _ h9 => h9) rfl dX13_bear_206 ?_
                              refine lv_iload hx hb dX13_bear_209 (lv_at hl 2 rfl) ?_
                              obtain ⟨f599, hM599, hf599⟩ := hW.open_32 i11
                              refine pg_iast hx hb hK hP hD hS i11.1 0 hM599 rfl (inbN zgw36 24 (by omega) (by omega)) dX13_bear_211 (fun H_600 locs hP hD hS => ?_)
                              obtain ⟨M_601, eM_601⟩ : ∃ M1 : Hp, M1 = va_up M_39 z11 (.inl (cy 14, 24, .inl (upd f599 ((nI zgw36) : Int32).toNatClampNeg (nI v5w36)))) := ⟨_, rfl⟩
                              have hP : va_P D vwCl ([(za, .inr (13, [.int 0, .ref z1, .int (nI z2), .int (nI z3), .int z4, .int z5, .ref z6, .ref z7, .ref z8, .ref z9, .int (nI z10), .ref z11, .ref z12, .ref z13, .ref z14, .ref z15, .int (nI zgw36), .ref z17, .int z18, .ref z19]))] ++ va_pl L M_601) H_600 := by rw [eM_601]; exact hP
                              have hD : va_D A ([(za, .inr (13, [.int 0, .ref z1, .int (nI z2), .int (nI z3), .int z4, .int z5, .ref z6, .ref z7, .ref z8, .ref z9, .int (nI z10), .ref z11, .ref z12, .ref z13, .ref z14, .ref z15, .int (nI zgw36), .ref z17, .int z18, .ref z19]))] ++ va_pl L M_601) := by rw [eM_601]; exact hD
                              have hW : WOM cy K L M_601 := by rw [eM_601]; exact hW.up_32 i11 ⟨_, rfl, (updP (P := fun z => ∃ c : Nat, c < 24 ∧ z = nI c) hf599 ⟨v5w36, by omega, rfl⟩)⟩
                              have hF : fr K L [14, 15, 32] M M_601 := by rw [eM_601]; exact hF.up i11 (by decide)
                              have hM_602 : M_601 z11 = .inl (cy 14, 24, .inl (upd f599 ((nI zgw36) : Int32).toNatClampNeg (nI v5w36))) := by rw [eM_601]; exact va_up_self _ _ _
                              have hM_603 : M_601 b11 = .inr (12, fs14) := by rw [eM_601, va_up_ne _ _ (hb_13.neT i11 (by decide))]; exact hM_41
                              have hM_604 : M_601 v109 = .inl (cy 14, 24, .inl (f110)) := by rw [eM_601, va_up_ne _ _ (hc109.neT i11 (by decide))]; exact hM110
                              have hM_605 : M_601 v343 = .inl (cy 14, 24, .inl (f344)) := by rw [eM_601, va_up_ne _ _ (hc343.neT i11 (by decide))]; exact hM344
                              have hM_606 : M_601 v418 = .inl (cy 14, 24, .inl (f419)) := by rw [eM_601, va_up_ne _ _ (hc418.neT i11 (by decide))]; exact hM419
                              have hM_607 : M_601 v476 = .inl (cy 16, 24, .inl (f477)) := by rw [eM_601, va_up_ne _ _ (hc476.neT i11 (by decide))]; exact hM477
                              have hf_609 : ∀ j, j < 24 → ∃ c : Nat, c < 24 ∧ (upd f599 ((nI zgw36) : Int32).toNatClampNeg (nI v5w36)) j = nI c := (updP (P := fun z => ∃ c : Nat, c < 24 ∧ z = nI c) hf599 ⟨v5w36, by omega, rfl⟩)
                              obtain ⟨f_608, ef_608⟩ : ∃ f : Nat → Int32, f = upd f599 ((nI zgw36) : Int32).toNatClampNeg (nI v5w36) := ⟨_, rfl⟩
                              rw [← ef_608] at hM_602 hf_609
                              clear ef_608
                              refine lv_aload_n hx hb dX13_bear_212 rfl (lv_at hl 4 rfl) ?_
                              refine va_get (D := D) (ci := 13) (v := .ref z12) (C := RX13) (T := TX13) (N := 20) hx hb hg inG13 hown hK hP 0 rfl rfl 12 (by decide) (hg _ wd_763) (fun _ h9 => h9) rfl dX13_bear_213 ?_
                              refine lv_aload_n hx hb dX13_bear_216 rfl (lv_at hl 4 rfl) ?_
                              refine va_get (D := D) (ci := 13) (v := .int (nI zgw36)) (C := RX13) (T := TX13) (N := 20) hx hb hg inG13 hown hK hP 0 rfl rfl 16 (by decide) (hg _ wd_769) (fun _ h9 => h9) rfl dX13_bear_217 ?_
                              refine lv_aload hx hb dX13_bear_220 (lv_at hl 3 rfl) ?_
                              refine lv_iload hx hb dX13_bear_222 (lv_at hl 1 rfl) ?_
                              refine lv_if_eq (tgt := 236) hx hb dX13_bear_224 (by decide) (fun c_610 => absurd c_610 (by decide)) (fun _ => ?_)
                              refine lv_aload hx hb dX13_bear_227 (lv_at hl 3 rfl) ?_
                              refine lv_iload_n hx hb dX13_bear_229 rfl (lv_at hl 6 rfl) ?_
                              have hPc : va_P D vwCl ([] ++ va_pl L M_601) H_600 := hP.part (cx := []) [] rfl
                              have hDc : va_D A ([] ++ va_pl L M_601) := hD.part (cx := []) [] (by decide) rfl
                              have hFc : ∀ q, va_A ([] ++ va_pl L M_601) H_600.size q → A q := pg_free hDc hS hA
                              refine va_calli (va_runV (As := [.int k2]) (rest := [.ref b11, .int (nI zgw36), .ref z12]) ⟨hx, hb, hml, hown, hg⟩ (r_ruleOnP l D cy K L M_601 H_600.size b11 k2  hW hb_13 (RLD.of hW (RLI.fr hW0 hRL hF (by decide) (by decide)) hb_13 hM_603 hv15 (by omega) hc15 hv24 (Int32.not_lt.mp c_25))) (cwV 1 hg (gV wd_815 wd_816 wd_817 wd_737 wd_818) rfl rfl rfl (by decide +kernel) ⟨(Nat.le_trans (Nat.le_of_ble_eq_true rfl) hRf), (Nat.le_trans (Nat.le_of_ble_eq_true rfl) hRl)⟩) ⟨PG.blind, pg_recv hK hP hb_13.1 hM_603 rfl, fun U hU hW => ⟨rfl, PG.at hPc hK hDc hN hU hW⟩⟩ rfl rfl hl.1 rfl (lv_room (Nat.le_of_ble_eq_true rfl)) dX13_bear_230 ⟨(Nat.le_trans (Nat.le_of_ble_eq_true rfl) hRc), (Nat.le_trans (Nat.le_of_ble_eq_true rfl) hRs)⟩) hS (fun q _ h => hFc q h) hFc (fun r_612 M_613 t H_611 locs ht hvm hw hB hz1 hk1 hS => ?_)
                              have hp_614 := hw
                              obtain ⟨hP1, hD1⟩ := hB
                              rw [ht] at hP1
                              obtain ⟨hP, hD⟩ := va_joinP (X := [(za, .inr (13, [.int 0, .ref z1, .int (nI z2), .int (nI z3), .int z4, .int z5, .ref z6, .ref z7, .ref z8, .ref z9, .int (nI z10), .ref z11, .ref z12, .ref z13, .ref z14, .ref z15, .int (nI zgw36), .ref z17, .int z18, .ref z19]))]) (cx := []) (wr := [(za, .inr (13, [.int 0, .ref z1, .int (nI z2), .int (nI z3), .int z4, .int z5, .ref z6, .ref z7, .ref z8, .ref z9, .int (nI z10), .ref z11, .ref z12, .ref z13, .ref z14, .ref z15, .int (nI zgw36), .ref z17, .int z18, .ref z19]))]) (rx := []) (pl := va_pl L M_601) (pl1 := va_pl L M_601) hP hD [] [0] rfl rfl (by decide) (by decide) hk1 hFc hP1 hD1
                              have hP : va_P D vwCl ([(za, .inr (13, [.int 0, .ref z1, .int (nI z2), .int (nI z3), .int z4, .int z5, .ref z6, .ref z7, .ref z8, .ref z9, .int (nI z10), .ref z11, .ref z12, .ref z13, .ref z14, .ref z15, .int (nI zgw36), .ref z17, .int z18, .ref z19]))] ++ va_pl L M_601) H_611 := hP
                              have hD : va_D A ([(za, .inr (13, [.int 0, .ref z1, .int (nI z2), .int (nI z3), .int z4, .int z5, .ref z6, .ref z7, .ref z8, .ref z9, .int (nI z10), .ref z11, .ref z12, .ref z13, .ref z14, .ref z15, .int (nI zgw36), .ref z17, .int z18, .ref z19]))] ++ va_pl L M_601) := hD
                              obtain ⟨j_615, rfl, c_616⟩ := hp_614
                              refine lv_goto (tgt := 243) hx hb dX13_bear_233 (by decide) ?_
                              refine lv_iconst (v := 3) hx hb dX13_bear_243 (by decide) ?_
                              refine lv_aload hx hb dX13_bear_244 (lv_at hl 3 rfl) ?_
                              obtain ⟨v617, hv617, hc617⟩ : ∃ v : Nat, fs14[20]? = some (.ref v : Value) ∧ isk K L v 31 24 := hl14 20 (by decide)
                              refine pg_getN (D := D) (ci := 12) (v := .ref v617) (C := RX12) (T := TX12) (N := 51) hx hb hg inG12 hown hK hP hb_13.1 hM_603 rfl 20 (by decide) (hN.use (Cond.fieldLinkNest RX13 110 RX12 "where" "[I" RX13) 29 rfl rfl) (fun _ h9 => h9) hv617 dX13_bear_246 ?_
                              refine lv_iload hx hb dX13_bear_249 (lv_at hl 2 rfl) ?_
                              obtain ⟨f618, hM618, hf618⟩ := hW.open_31 hc617
                              have hi_619 : vp_in (nI v5w36) 24 := (inbN v5w36 24 (by omega) (by omega))
                              refine pg_iald hx hb hK hP hc617.1 0 hM618 rfl hi_619 dX13_bear_251 ?_
                              have hp_620 := hf618 _ (vp_lt hi_619)
                              obtain ⟨c_621, hc_622, ec_623⟩ := hp_620
                              rw [ec_623]
                              have hPc : va_P D vwCl ([] ++ va_pl L M_601) H_611 := hP.part (cx := []) [] rfl
                              have hDc : va_D A ([] ++ va_pl L M_601) := hD.part (cx := []) [] (by decide) rfl
                              have hFc : ∀ q, va_A ([] ++ va_pl L M_601) H_611.size q → A q := pg_free hDc hS hA
                              refine va_calli (va_runV (As := [.int (nI j_615), .int 3, .int (nI c_621)]) (rest := [.int (nI zgw36), .ref z12]) ⟨hx, hb, hml, hown, hg⟩ (r_X12_term l D cy K L M_601 H_611.size b11 j_615 3 c_621  hW hb_13 c_616 (by omega) hc_622) (cwV 3 hg (gV wd_770 wd_771 wd_772 wd_737 wd_773) rfl rfl rfl (by decide +kernel) ⟨(Nat.le_trans (Nat.le_of_ble_eq_true rfl) hRf), (Nat.le_trans (Nat.le_of_ble_eq_true rfl) hRl)⟩) ⟨PG.blind, pg_recv hK hP hb_13.1 hM_603 rfl, fun U hU hW => ⟨rfl, PG.at hPc hK hDc hN hU hW⟩⟩ rfl rfl hl.1 rfl (lv_room (Nat.le_of_ble_eq_true rfl)) dX13_bear_252 ⟨(Nat.le_trans (Nat.le_of_ble_eq_true rfl) hRc), (Nat.le_trans (Nat.le_of_ble_eq_true rfl) hRs)⟩) hS (fun q _ h => hFc q h) hFc (fun r_625 M_626 t H_624 locs ht hvm hw hB hz1 hk1 hS => ?_)
                              have hp_627 := hw
                              obtain ⟨hP1, hD1⟩ := hB
                              rw [ht] at hP1
                              obtain ⟨hP, hD⟩ := va_joinP (X := [(za, .inr (13, [.int 0, .ref z1, .int (nI z2), .int (nI z3), .int z4, .int z5, .ref z6, .ref z7, .ref z8, .ref z9, .int (nI z10), .ref z11, .ref z12, .ref z13, .ref z14, .ref z15, .int (nI zgw36), .ref z17, .int z18, .ref z19]))]) (cx := []) (wr := [(za, .inr (13, [.int 0, .ref z1, .int (nI z2), .int (nI z3), .int z4, .int z5, .ref z6, .ref z7, .ref z8, .ref z9, .int (nI z10), .ref z11, .ref z12, .ref z13, .ref z14, .ref z15, .int (nI zgw36), .ref z17, .int z18, .ref z19]))]) (rx := []) (pl := va_pl L M_601) (pl1 := va_pl L M_601) hP hD [] [0] rfl rfl (by decide) (by decide) hk1 hFc hP1 hD1
                              have hP : va_P D vwCl ([(za, .inr (13, [.int 0, .ref z1, .int (nI z2), .int (nI z3), .int z4, .int z5, .ref z6, .ref z7, .ref z8, .ref z9, .int (nI z10), .ref z11, .ref z12, .ref z13, .ref z14, .ref z15, .int (nI zgw36), .ref z17, .int z18, .ref z19]))] ++ va_pl L M_601) H_624 := hP
                              have hD : va_D A ([(za, .inr (13, [.int 0, .ref z1, .int (nI z2), .int (nI z3), .int z4, .int z5, .ref z6, .ref z7, .ref z8, .ref z9, .int (nI z10), .ref z11, .ref z12, .ref z13, .ref z14, .ref z15, .int (nI zgw36), .ref z17, .int z18, .ref z19]))] ++ va_pl L M_601) := hD
                              obtain ⟨f628, hM628⟩ := hW.open_14 i12
                              refine pg_iast hx hb hK hP hD hS i12.1 0 hM628 rfl (inbN zgw36 24 (by omega) (by omega)) dX13_bear_255 (fun H_629 locs hP hD hS => ?_)
                              obtain ⟨M_630, eM_630⟩ : ∃ M1 : Hp, M1 = va_up M_601 z12 (.inl (cy 14, 24, .inl (upd f628 ((nI zgw36) : Int32).toNatClampNeg r_625))) := ⟨_, rfl⟩
                              have hP : va_P D vwCl ([(za, .inr (13, [.int 0, .ref z1, .int (nI z2), .int (nI z3), .int z4, .int z5, .ref z6, .ref z7, .ref z8, .ref z9, .int (nI z10), .ref z11, .ref z12, .ref z13, .ref z14, .ref z15, .int (nI zgw36), .ref z17, .int z18, .ref z19]))] ++ va_pl L M_630) H_629 := by rw [eM_630]; exact hP
                              have hD : va_D A ([(za, .inr (13, [.int 0, .ref z1, .int (nI z2), .int (nI z3), .int z4, .int z5, .ref z6, .ref z7, .ref z8, .ref z9, .int (nI z10), .ref z11, .ref z12, .ref z13, .ref z14, .ref z15, .int (nI zgw36), .ref z17, .int z18, .ref z19]))] ++ va_pl L M_630) := by rw [eM_630]; exact hD
                              have hW : WOM cy K L M_630 := by rw [eM_630]; exact hW.up_14 i12 ⟨_, rfl⟩
                              have hF : fr K L [14, 15, 32] M M_630 := by rw [eM_630]; exact hF.up i12 (by decide)
                              have hM_631 : M_630 z12 = .inl (cy 14, 24, .inl (upd f628 ((nI zgw36) : Int32).toNatClampNeg r_625)) := by rw [eM_630]; exact va_up_self _ _ _
                              have hM_632 : M_630 z11 = .inl (cy 14, 24, .inl (f_608)) := by rw [eM_630, va_up_ne _ _ (i11.neT i12 (by decide))]; exact hM_602
                              have hM_633 : M_630 b11 = .inr (12, fs14) := by rw [eM_630, va_up_ne _ _ (hb_13.neT i12 (by decide))]; exact hM_603
                              have hM_634 : M_630 v109 = .inl (cy 14, 24, .inl (f110)) := by rw [eM_630, va_up_ne _ _ (hc109.neT i12 (by decide))]; exact hM_604
                              have hM_635 : M_630 v343 = .inl (cy 14, 24, .inl (f344)) := by rw [eM_630, va_up_ne _ _ (hc343.neT i12 (by decide))]; exact hM_605
                              have hM_636 : M_630 v418 = .inl (cy 14, 24, .inl (f419)) := by rw [eM_630, va_up_ne _ _ (hc418.neT i12 (by decide))]; exact hM_606
                              have hM_637 : M_630 v476 = .inl (cy 16, 24, .inl (f477)) := by rw [eM_630, va_up_ne _ _ (hc476.neT i12 (by decide))]; exact hM_607
                              have hM_638 : M_630 v617 = .inl (cy 14, 24, .inl (f618)) := by rw [eM_630, va_up_ne _ _ (hc617.neT i12 (by decide))]; exact hM618
                              obtain ⟨f_639, ef_639⟩ : ∃ f : Nat → Int32, f = upd f628 ((nI zgw36) : Int32).toNatClampNeg r_625 := ⟨_, rfl⟩
                              rw [← ef_639] at hM_631
                              clear ef_639
                              refine lv_aload_n hx hb dX13_bear_256 rfl (lv_at hl 4 rfl) ?_
                              refine va_get (D := D) (ci := 13) (v := .ref z13) (C := RX13) (T := TX13) (N := 20) hx hb hg inG13 hown hK hP 0 rfl rfl 13 (by decide) (hg _ wd_789) (fun _ h9 => h9) rfl dX13_bear_257 ?_
                              refine lv_aload_n hx hb dX13_bear_260 rfl (lv_at hl 4 rfl) ?_
                              refine va_get (D := D) (ci := 13) (v := .int (nI zgw36)) (C := RX13) (T := TX13) (N := 20) hx hb hg inG13 hown hK hP 0 rfl rfl 16 (by decide) (hg _ wd_769) (fun _ h9 => h9) rfl dX13_bear_261 ?_
                              refine lv_lconst (v := 0) hx hb dX13_bear_264 (by decide) ?_
                              obtain ⟨f640, hM640⟩ := hW.open_15 i13
                              refine pg_last hx hb hK hP hD hS i13.1 1 hM640 rfl (inbN zgw36 24 (by omega) (by omega)) dX13_bear_265 (fun H_641 locs hP hD hS => ?_)
                              obtain ⟨M_642, eM_642⟩ : ∃ M1 : Hp, M1 = va_up M_630 z13 (.inl (cy 15, 24, .inr (.inl (vp_updL f640 ((nI zgw36) : Int32).toNatClampNeg 0)))) := ⟨_, rfl⟩
                              have hP : va_P D vwCl ([(za, .inr (13, [.int 0, .ref z1, .int (nI z2), .int (nI z3), .int z4, .int z5, .ref z6, .ref z7, .ref z8, .ref z9, .int (nI z10), .ref z11, .ref z12, .ref z13, .ref z14, .ref z15, .int (nI zgw36), .ref z17, .int z18, .ref z19]))] ++ va_pl L M_642) H_641 := by rw [eM_642]; exact hP
                              have hD : va_D A ([(za, .inr (13, [.int 0, .ref z1, .int (nI z2), .int (nI z3), .int z4, .int z5, .ref z6, .ref z7, .ref z8, .ref z9, .int (nI z10), .ref z11, .ref z12, .ref z13, .ref z14, .ref z15, .int (nI zgw36), .ref z17, .int z18, .ref z19]))] ++ va_pl L M_642) := by rw [eM_642]; exact hD
                              have hW : WOM cy K L M_642 := by rw [eM_642]; exact hW.up_15 i13 ⟨_, rfl⟩
                              have hF : fr K L [14, 15, 32] M M_642 := by rw [eM_642]; exact hF.up i13 (by decide)
                              have hM_643 : M_642 z13 = .inl (cy 15, 24, .inr (.inl (vp_updL f640 ((nI zgw36) : Int32).toNatClampNeg 0))) := by rw [eM_642]; exact va_up_self _ _ _
                              have hM_644 : M_642 z12 = .inl (cy 14, 24, .inl (f_639)) := by rw [eM_642, va_up_ne _ _ (i12.neT i13 (by decide))]; exact hM_631
                              have hM_645 : M_642 z11 = .inl (cy 14, 24, .inl (f_608)) := by rw [eM_642, va_up_ne _ _ (i11.neT i13 (by decide))]; exact hM_632
                              have hM_646 : M_642 b11 = .inr (12, fs14) := by rw [eM_642, va_up_ne _ _ (hb_13.neT i13 (by decide))]; exact hM_633
                              have hM_647 : M_642 v109 = .inl (cy 14, 24, .inl (f110)) := by rw [eM_642, va_up_ne _ _ (hc109.neT i13 (by decide))]; exact hM_634
                              have hM_648 : M_642 v343 = .inl (cy 14, 24, .inl (f344)) := by rw [eM_642, va_up_ne _ _ (hc343.neT i13 (by decide))]; exact hM_635
                              have hM_649 : M_642 v418 = .inl (cy 14, 24, .inl (f419)) := by rw [eM_642, va_up_ne _ _ (hc418.neT i13 (by decide))]; exact hM_636
                              have hM_650 : M_642 v476 = .inl (cy 16, 24, .inl (f477)) := by rw [eM_642, va_up_ne _ _ (hc476.neT i13 (by decide))]; exact hM_637
                              have hM_651 : M_642 v617 = .inl (cy 14, 24, .inl (f618)) := by rw [eM_642, va_up_ne _ _ (hc617.neT i13 (by decide))]; exact hM_638
                              obtain ⟨f_652, ef_652⟩ : ∃ f : Nat → Int64, f = vp_updL f640 ((nI zgw36) : Int32).toNatClampNeg 0 := ⟨_, rfl⟩
                              rw [← ef_652] at hM_643
                              clear ef_652
                              refine lv_aload_n hx hb dX13_bear_266 rfl (lv_at hl 4 rfl) ?_
                              refine lv_dup hx hb dX13_bear_267 rfl ?_
                              refine va_get (D := D) (ci := 13) (v := .int (nI zgw36)) (C := RX13) (T := TX13) (N := 20) hx hb hg inG13 hown hK hP 0 rfl rfl 16 (by decide) (hg _ wd_769) (fun _ h9 => h9) rfl dX13_bear_268 ?_
                              refine lv_iconst (v := 1) hx hb dX13_bear_271 (by decide) ?_
                              refine lv_iadd hx hb dX13_bear_272 ?_
                              refine lv_topi (fun f_653 ef_653 => ?_)
                              obtain rfl : f_653 = (nI (zgw36 + 1)) := ef_653.trans (nI_add zgw36 1)
                              refine va_put (D := D) (ci := 13) (v := .int (nI (zgw36 + 1))) (ty := .int) (C := RX13) (T := TX13) (N := 20) hx hb hg inG13 tyX13 tyX13_ok nmX13 hown hK hP hD hS 0 rfl rfl 16 (by decide) (hg _ wd_769) (fun _ h9 => h9) rfl (by decide +kernel) rfl rfl (Nat.le_of_ble_eq_true rfl) dX13_bear_273 (fun H_654 locs hP hD hS => ?_)
                              have hP : va_P D vwCl ([(za, .inr (13, [.int 0, .ref z1, .int (nI z2), .int (nI z3), .int z4, .int z5, .ref z6, .ref z7, .ref z8, .ref z9, .int (nI z10), .ref z11, .ref z12, .ref z13, .ref z14, .ref z15, .int (nI (zgw36 + 1)), .ref z17, .int z18, .ref z19]))] ++ va_pl L M_642) H_654 := hP
                              have hD : va_D A ([(za, .inr (13, [.int 0, .ref z1, .int (nI z2), .int (nI z3), .int z4, .int z5, .ref z6, .ref z7, .ref z8, .ref z9, .int (nI z10), .ref z11, .ref z12, .ref z13, .ref z14, .ref z15, .int (nI (zgw36 + 1)), .ref z17, .int z18, .ref z19]))] ++ va_pl L M_642) := hD
                              refine lv_iinc (v := (nI (v5w36 + 1))) (lv' := [(5, .int (nI (v5w36 + 1))), (7, .int 1), (6, .int 1), (4, .ref b11), (0, .ref za), (1, .int k1), (2, .int k2), (3, .int k3)]) hx hb dX13_bear_276 hl (k := 2) rfl (nI_1 v5w36) (by decide) rfl (fun ls hl => ?_)
                              refine lv_goto (tgt := 82) hx hb dX13_bear_279 (by decide) ?_
                              exact ih_34 (v5w36 + 1) (zgw36 + 1) M_642 H_654 _ _ (by omega) hM_646 (by omega) (by omega) hW hF hP hD hS (lv_sub hl [0, 3, 4, 5, 6, 7] rfl)
                  · have hz := rfl (a := 0)
                    refine lv_if_eq (tgt := 143) hx hb dX13_bear_100 (by decide) (fun _ => ?_) (fun c_655 => absurd c_655 (by decide))
                    refine lv_iconst (v := 0) hx hb dX13_bear_143 (by decide) ?_
                    refine lv_istore (lv' := [(6, .int 0), (5, .int (nI v5w36)), (4, .ref b11), (0, .ref za), (1, .int k1), (2, .int k2), (3, .int k3)]) hx hb dX13_bear_144 hl (by decide) rfl (fun ls hl => ?_)
                    refine lv_aload hx hb dX13_bear_146 (lv_at hl 2 rfl) ?_
                    obtain ⟨v656, hv656, hc656⟩ : ∃ v : Nat, fs14[21]? = some (.ref v : Value) ∧ isk K L v 75 24 := hl14 21 (by decide)
                    refine pg_getN (D := D) (ci := 12) (v := .ref v656) (C := RX12) (T := TX12) (N := 51) hx hb hg inG12 hown hK hP hb_13.1 hM_41 rfl 21 (by decide) (hN.use (Cond.fieldLinkNest RX13 112 RX12 "begin" "[I" RX13) 30 rfl rfl) (fun _ h9 => h9) hv656 dX13_bear_148 ?_
                    refine lv_iload hx hb dX13_bear_151 (lv_at hl 1 rfl) ?_
                    obtain ⟨f657, hM657⟩ := hW.open_75 hc656
                    refine pg_iald hx hb hK hP hc656.1 0 hM657 rfl (inbN v5w36 24 (by omega) (by omega)) dX13_bear_153 ?_
                    refine lv_topi (fun f_658 ef_658 => ?_)
                    refine lv_iload_n hx hb dX13_bear_154 rfl (lv_at hl 5 rfl) ?_
                    refine lv_icmp_le (tgt := 185) hx hb dX13_bear_155 (by decide) (fun c_659 => ?_) (fun c_659 => ?_)
                    · have hz := rfl (a := 0)
                      refine lv_iconst (v := 0) hx hb dX13_bear_185 (by decide) ?_
                      refine lv_istore (lv' := [(7, .int 0), (6, .int 0), (5, .int (nI v5w36)), (4, .ref b11), (0, .ref za), (1, .int k1), (2, .int k2), (3, .int k3)]) hx hb dX13_bear_186 hl (by decide) rfl (fun ls hl => ?_)
                      refine lv_iload hx hb dX13_bear_188 (lv_at hl 1 rfl) ?_
                      refine lv_if_ne (tgt := 201) hx hb dX13_bear_190 (by decide) (fun c_660 => absurd c_660 (by decide)) (fun _ => ?_)
                      refine lv_iload hx hb dX13_bear_193 (lv_at hl 0 rfl) ?_
                      refine lv_if_ne (tgt := 201) hx hb dX13_bear_195 (by decide) (fun c_661 => absurd c_661 (by decide)) (fun _ => ?_)
                      refine lv_goto (tgt := 276) hx hb dX13_bear_198 (by decide) ?_
                      refine lv_iinc (v := (nI (v5w36 + 1))) (lv' := [(5, .int (nI (v5w36 + 1))), (7, .int 0), (6, .int 0), (4, .ref b11), (0, .ref za), (1, .int k1), (2, .int k2), (3, .int k3)]) hx hb dX13_bear_276 hl (k := 2) rfl (nI_1 v5w36) (by decide) rfl (fun ls hl => ?_)
                      refine lv_goto (tgt := 82) hx hb dX13_bear_279 (by decide) ?_
                      exact ih_34 (v5w36 + 1) zgw36 M_39 H_104 _ _ (by omega) hM_41 (by omega) (by omega) hW hF hP hD hS (lv_sub hl [0, 3, 4, 5, 6, 7] rfl)
                    · have hz := rfl (a := 0)
                      refine lv_aload hx hb dX13_bear_158 (lv_at hl 2 rfl) ?_
                      obtain ⟨v662, hv662, hc662⟩ : ∃ v : Nat, fs14[26]? = some (.ref v : Value) ∧ isk K L v 16 24 := hl14 26 (by decide)
                      refine pg_getN (D := D) (ci := 12) (v := .ref v662) (C := RX12) (T := TX12) (N := 51) hx hb hg inG12 hown hK hP hb_13.1 hM_41 rfl 26 (by decide) (hN.use (Cond.fieldLinkNest RX13 124 RX12 "word" "[Z" RX13) 35 rfl rfl) (fun _ h9 => h9) hv662 dX13_bear_160 ?_
                      refine lv_iload hx hb dX13_bear_163 (lv_at hl 1 rfl) ?_
                      obtain ⟨f663, hM663, hf663⟩ := hW.open_16 hc662
                      have hi_664 : vp_in (nI v5w36) 24 := (inbN v5w36 24 (by omega) (by omega))
                      refine pg_zald hx hb hK hP hc662.1 2 hM663 rfl hi_664 dX13_bear_165 ?_
                      rcases hf663 _ (vp_lt hi_664) with ec_665 | ec_665
                      · rw [ec_665]
                        refine lv_if_eq (tgt := 185) hx hb dX13_bear_166 (by decide) (fun _ => ?_) (fun c_666 => absurd c_666 (by decide))
                        refine lv_iconst (v := 0) hx hb dX13_bear_185 (by decide) ?_
                        refine lv_istore (lv' := [(7, .int 0), (6, .int 0), (5, .int (nI v5w36)), (4, .ref b11), (0, .ref za), (1, .int k1), (2, .int k2), (3, .int k3)]) hx hb dX13_bear_186 hl (by decide) rfl (fun ls hl => ?_)
                        refine lv_iload hx hb dX13_bear_188 (lv_at hl 1 rfl) ?_
                        refine lv_if_ne (tgt := 201) hx hb dX13_bear_190 (by decide) (fun c_667 => absurd c_667 (by decide)) (fun _ => ?_)
                        refine lv_iload hx hb dX13_bear_193 (lv_at hl 0 rfl) ?_
                        refine lv_if_ne (tgt := 201) hx hb dX13_bear_195 (by decide) (fun c_668 => absurd c_668 (by decide)) (fun _ => ?_)
                        refine lv_goto (tgt := 276) hx hb dX13_bear_198 (by decide) ?_
                        refine lv_iinc (v := (nI (v5w36 + 1))) (lv' := [(5, .int (nI (v5w36 + 1))), (7, .int 0), (6, .int 0), (4, .ref b11), (0, .ref za), (1, .int k1), (2, .int k2), (3, .int k3)]) hx hb dX13_bear_276 hl (k := 2) rfl (nI_1 v5w36) (by decide) rfl (fun ls hl => ?_)
                        refine lv_goto (tgt := 82) hx hb dX13_bear_279 (by decide) ?_
                        exact ih_34 (v5w36 + 1) zgw36 M_39 H_104 _ _ (by omega) hM_41 (by omega) (by omega) hW hF hP hD hS (lv_sub hl [0, 3, 4, 5, 6, 7] rfl)
                      · rw [ec_665]
                        refine lv_if_eq (tgt := 185) hx hb dX13_bear_166 (by decide) (fun c_669 => absurd c_669 (by decide)) (fun _ => ?_)
                        refine lv_aload hx hb dX13_bear_169 (lv_at hl 2 rfl) ?_
                        obtain ⟨v670, hv670, hc670⟩ : ∃ v : Nat, fs14[22]? = some (.ref v : Value) ∧ isk K L v 41 24 := hl14 22 (by decide)
                        refine pg_getN (D := D) (ci := 12) (v := .ref v670) (C := RX12) (T := TX12) (N := 51) hx hb hg inG12 hown hK hP hb_13.1 hM_41 rfl 22 (by decide) (hN.use (Cond.fieldLinkNest RX13 95 RX12 "ended" "[I" RX13) 31 rfl rfl) (fun _ h9 => h9) hv670 dX13_bear_171 ?_
                        refine lv_iload hx hb dX13_bear_174 (lv_at hl 1 rfl) ?_
                        obtain ⟨f671, hM671⟩ := hW.open_41 hc670
                        refine pg_iald hx hb hK hP hc670.1 0 hM671 rfl (inbN v5w36 24 (by omega) (by omega)) dX13_bear_176 ?_
                        refine lv_topi (fun f_672 ef_672 => ?_)
                        refine lv_iconst (v := (-1)) hx hb dX13_bear_177 (by decide) ?_
                        refine lv_icmp_ne (tgt := 185) hx hb dX13_bear_178 (by decide) (fun c_673 => ?_) (fun c_673 => ?_)
                        · have hz := rfl (a := 0)
                          refine lv_iconst (v := 0) hx hb dX13_bear_185 (by decide) ?_
                          refine lv_istore (lv' := [(7, .int 0), (6, .int 0), (5, .int (nI v5w36)), (4, .ref b11), (0, .ref za), (1, .int k1), (2, .int k2), (3, .int k3)]) hx hb dX13_bear_186 hl (by decide) rfl (fun ls hl => ?_)
                          refine lv_iload hx hb dX13_bear_188 (lv_at hl 1 rfl) ?_
                          refine lv_if_ne (tgt := 201) hx hb dX13_bear_190 (by decide) (fun c_674 => absurd c_674 (by decide)) (fun _ => ?_)
                          refine lv_iload hx hb dX13_bear_193 (lv_at hl 0 rfl) ?_
                          refine lv_if_ne (tgt := 201) hx hb dX13_bear_195 (by decide) (fun c_675 => absurd c_675 (by decide)) (fun _ => ?_)
                          refine lv_goto (tgt := 276) hx hb dX13_bear_198 (by decide) ?_
                          refine lv_iinc (v := (nI (v5w36 + 1))) (lv' := [(5, .int (nI (v5w36 + 1))), (7, .int 0), (6, .int 0), (4, .ref b11), (0, .ref za), (1, .int k1), (2, .int k2), (3, .int k3)]) hx hb dX13_bear_276 hl (k := 2) rfl (nI_1 v5w36) (by decide) rfl (fun ls hl => ?_)
                          refine lv_goto (tgt := 82) hx hb dX13_bear_279 (by decide) ?_
                          exact ih_34 (v5w36 + 1) zgw36 M_39 H_104 _ _ (by omega) hM_41 (by omega) (by omega) hW hF hP hD hS (lv_sub hl [0, 3, 4, 5, 6, 7] rfl)
                        · have hz := rfl (a := 0)
                          refine lv_iconst (v := 1) hx hb dX13_bear_181 (by decide) ?_
                          refine lv_goto (tgt := 186) hx hb dX13_bear_182 (by decide) ?_
                          refine lv_istore (lv' := [(7, .int 1), (6, .int 0), (5, .int (nI v5w36)), (4, .ref b11), (0, .ref za), (1, .int k1), (2, .int k2), (3, .int k3)]) hx hb dX13_bear_186 hl (by decide) rfl (fun ls hl => ?_)
                          refine lv_iload hx hb dX13_bear_188 (lv_at hl 1 rfl) ?_
                          refine lv_if_ne (tgt := 201) hx hb dX13_bear_190 (by decide) (fun c_676 => absurd c_676 (by decide)) (fun _ => ?_)
                          refine lv_iload hx hb dX13_bear_193 (lv_at hl 0 rfl) ?_
                          refine lv_if_ne (tgt := 201) hx hb dX13_bear_195 (by decide) (fun _ => ?_) (fun c_677 => absurd c_677 (by decide))
                          refine lv_aload_n hx hb dX13_bear_201 rfl (lv_at hl 4 rfl) ?_
                          refine va_get (D := D) (ci := 13) (v := .ref z11) (C := RX13) (T := TX13) (N := 20) hx hb hg inG13 hown hK hP 0 rfl rfl 11 (by decide) (hg _ wd_764) (fun _ h9 => h9) rfl dX13_bear_202 ?_
                          refine lv_aload_n hx hb dX13_bear_205 rfl (lv_at hl 4 rfl) ?_
                          refine va_get (D := D) (ci := 13) (v := .int (nI zgw36)) (C := RX13) (T := TX13) (N := 20) hx hb hg inG13 hown hK hP 0 rfl rfl 16 (by decide) (hg _ wd_769) (fun _ h9 => h9) rfl dX13_bear_206 ?_
                          refine lv_iload hx hb dX13_bear_209 (lv_at hl 2 rfl) ?_
                          obtain ⟨f678, hM678, hf678⟩ := hW.open_32 i11
                          refine pg_iast hx hb hK hP hD hS i11.1 0 hM678 rfl (inbN zgw36 24 (by omega) (by omega)) dX13_bear_211 (fun H_679 locs hP hD hS => ?_)
                          obtain ⟨M_680, eM_680⟩ : ∃ M1 : Hp, M1 = va_up M_39 z11 (.inl (cy 14, 24, .inl (upd f678 ((nI zgw36) : Int32).toNatClampNeg (nI v5w36)))) := ⟨_, rfl⟩
                          have hP : va_P D vwCl ([(za, .inr (13, [.int 0, .ref z1, .int (nI z2), .int (nI z3), .int z4, .int z5, .ref z6, .ref z7, .ref z8, .ref z9, .int (nI z10), .ref z11, .ref z12, .ref z13, .ref z14, .ref z15, .int (nI zgw36), .ref z17, .int z18, .ref z19]))] ++ va_pl L M_680) H_679 := by rw [eM_680]; exact hP
                          have hD : va_D A ([(za, .inr (13, [.int 0, .ref z1, .int (nI z2), .int (nI z3), .int z4, .int z5, .ref z6, .ref z7, .ref z8, .ref z9, .int (nI z10), .ref z11, .ref z12, .ref z13, .ref z14, .ref z15, .int (nI zgw36), .ref z17, .int z18, .ref z19]))] ++ va_pl L M_680) := by rw [eM_680]; exact hD
                          have hW : WOM cy K L M_680 := by rw [eM_680]; exact hW.up_32 i11 ⟨_, rfl, (updP (P := fun z => ∃ c : Nat, c < 24 ∧ z = nI c) hf678 ⟨v5w36, by omega, rfl⟩)⟩
                          have hF : fr K L [14, 15, 32] M M_680 := by rw [eM_680]; exact hF.up i11 (by decide)
                          have hM_681 : M_680 z11 = .inl (cy 14, 24, .inl (upd f678 ((nI zgw36) : Int32).toNatClampNeg (nI v5w36))) := by rw [eM_680]; exact va_up_self _ _ _
                          have hM_682 : M_680 b11 = .inr (12, fs14) := by rw [eM_680, va_up_ne _ _ (hb_13.neT i11 (by decide))]; exact hM_41
                          have hM_683 : M_680 v656 = .inl (cy 14, 24, .inl (f657)) := by rw [eM_680, va_up_ne _ _ (hc656.neT i11 (by decide))]; exact hM657
                          have hM_684 : M_680 v662 = .inl (cy 16, 24, .inl (f663)) := by rw [eM_680, va_up_ne _ _ (hc662.neT i11 (by decide))]; exact hM663
                          have hM_685 : M_680 v670 = .inl (cy 14, 24, .inl (f671)) := by rw [eM_680, va_up_ne _ _ (hc670.neT i11 (by decide))]; exact hM671
                          have hf_687 : ∀ j, j < 24 → ∃ c : Nat, c < 24 ∧ (upd f678 ((nI zgw36) : Int32).toNatClampNeg (nI v5w36)) j = nI c := (updP (P := fun z => ∃ c : Nat, c < 24 ∧ z = nI c) hf678 ⟨v5w36, by omega, rfl⟩)
                          obtain ⟨f_686, ef_686⟩ : ∃ f : Nat → Int32, f = upd f678 ((nI zgw36) : Int32).toNatClampNeg (nI v5w36) := ⟨_, rfl⟩
                          rw [← ef_686] at hM_681 hf_687
                          clear ef_686
                          refine lv_aload_n hx hb dX13_bear_212 rfl (lv_at hl 4 rfl) ?_
                          refine va_get (D := D) (ci := 13) (v := .ref z12) (C := RX13) (T := TX13) (N := 20) hx hb hg inG13 hown hK hP 0 rfl rfl 12 (by decide) (hg _ wd_763) (fun _ h9 => h9) rfl dX13_bear_213 ?_
                          refine lv_aload_n hx hb dX13_bear_216 rfl (lv_at hl 4 rfl) ?_
                          refine va_get (D := D) (ci := 13) (v := .int (nI zgw36)) (C := RX13) (T := TX13) (N := 20) hx hb hg inG13 hown hK hP 0 rfl rfl 16 (by decide) (hg _ wd_769) (fun _ h9 => h9) rfl dX13_bear_217 ?_
                          refine lv_aload hx hb dX13_bear_220 (lv_at hl 3 rfl) ?_
                          refine lv_iload hx hb dX13_bear_222 (lv_at hl 1 rfl) ?_
                          refine lv_if_eq (tgt := 236) hx hb dX13_bear_224 (by decide) (fun _ => ?_) (fun c_688 => absurd c_688 (by decide))
                          refine lv_aload hx hb dX13_bear_236 (lv_at hl 3 rfl) ?_
                          refine pg_getN (D := D) (ci := 12) (v := .int (nI v15)) (C := RX12) (T := TX12) (N := 51) hx hb hg inG12 hown hK hP hb_13.1 hM_682 rfl 11 (by decide) (hN.use (Cond.fieldLinkNest RX13 142 RX12 "rules" "I" RX13) 20 rfl rfl) (fun _ h9 => h9) hv15 dX13_bear_238 ?_
                          refine lv_iconst (v := 1) hx hb dX13_bear_241 (by decide) ?_
                          refine lv_isub hx hb dX13_bear_242 ?_
                          refine lv_topi (fun f_689 ef_689 => ?_)
                          obtain rfl : f_689 = (nI (v15 - 1)) := ef_689.trans (nI_prd (by omega))
                          refine lv_iconst (v := 3) hx hb dX13_bear_243 (by decide) ?_
                          refine lv_aload hx hb dX13_bear_244 (lv_at hl 3 rfl) ?_
                          obtain ⟨v690, hv690, hc690⟩ : ∃ v : Nat, fs14[20]? = some (.ref v : Value) ∧ isk K L v 31 24 := hl14 20 (by decide)
                          refine pg_getN (D := D) (ci := 12) (v := .ref v690) (C := RX12) (T := TX12) (N := 51) hx hb hg inG12 hown hK hP hb_13.1 hM_682 rfl 20 (by decide) (hN.use (Cond.fieldLinkNest RX13 110 RX12 "where" "[I" RX13) 29 rfl rfl) (fun _ h9 => h9) hv690 dX13_bear_246 ?_
                          refine lv_iload hx hb dX13_bear_249 (lv_at hl 2 rfl) ?_
                          obtain ⟨f691, hM691, hf691⟩ := hW.open_31 hc690
                          have hi_692 : vp_in (nI v5w36) 24 := (inbN v5w36 24 (by omega) (by omega))
                          refine pg_iald hx hb hK hP hc690.1 0 hM691 rfl hi_692 dX13_bear_251 ?_
                          have hp_693 := hf691 _ (vp_lt hi_692)
                          obtain ⟨c_694, hc_695, ec_696⟩ := hp_693
                          rw [ec_696]
                          have hPc : va_P D vwCl ([] ++ va_pl L M_680) H_679 := hP.part (cx := []) [] rfl
                          have hDc : va_D A ([] ++ va_pl L M_680) := hD.part (cx := []) [] (by decide) rfl
                          have hFc : ∀ q, va_A ([] ++ va_pl L M_680) H_679.size q → A q := pg_free hDc hS hA
                          refine va_calli (va_runV (As := [.int (nI (v15 - 1)), .int 3, .int (nI c_694)]) (rest := [.int (nI zgw36), .ref z12]) ⟨hx, hb, hml, hown, hg⟩ (r_X12_term l D cy K L M_680 H_679.size b11 (v15 - 1) 3 c_694  hW hb_13 (by omega) (by omega) hc_695) (cwV 3 hg (gV wd_770 wd_771 wd_772 wd_737 wd_773) rfl rfl rfl (by decide +kernel) ⟨(Nat.le_trans (Nat.le_of_ble_eq_true rfl) hRf), (Nat.le_trans (Nat.le_of_ble_eq_true rfl) hRl)⟩) ⟨PG.blind, pg_recv hK hP hb_13.1 hM_682 rfl, fun U hU hW => ⟨rfl, PG.at hPc hK hDc hN hU hW⟩⟩ rfl rfl hl.1 rfl (lv_room (Nat.le_of_ble_eq_true rfl)) dX13_bear_252 ⟨(Nat.le_trans (Nat.le_of_ble_eq_true rfl) hRc), (Nat.le_trans (Nat.le_of_ble_eq_true rfl) hRs)⟩) hS (fun q _ h => hFc q h) hFc (fun r_698 M_699 t H_697 locs ht hvm hw hB hz1 hk1 hS => ?_)
                          have hp_700 := hw
                          obtain ⟨hP1, hD1⟩ := hB
                          rw [ht] at hP1
                          obtain ⟨hP, hD⟩ := va_joinP (X := [(za, .inr (13, [.int 0, .ref z1, .int (nI z2), .int (nI z3), .int z4, .int z5, .ref z6, .ref z7, .ref z8, .ref z9, .int (nI z10), .ref z11, .ref z12, .ref z13, .ref z14, .ref z15, .int (nI zgw36), .ref z17, .int z18, .ref z19]))]) (cx := []) (wr := [(za, .inr (13, [.int 0, .ref z1, .int (nI z2), .int (nI z3), .int z4, .int z5, .ref z6, .ref z7, .ref z8, .ref z9, .int (nI z10), .ref z11, .ref z12, .ref z13, .ref z14, .ref z15, .int (nI zgw36), .ref z17, .int z18, .ref z19]))]) (rx := []) (pl := va_pl L M_680) (pl1 := va_pl L M_680) hP hD [] [0] rfl rfl (by decide) (by decide) hk1 hFc hP1 hD1
                          have hP : va_P D vwCl ([(za, .inr (13, [.int 0, .ref z1, .int (nI z2), .int (nI z3), .int z4, .int z5, .ref z6, .ref z7, .ref z8, .ref z9, .int (nI z10), .ref z11, .ref z12, .ref z13, .ref z14, .ref z15, .int (nI zgw36), .ref z17, .int z18, .ref z19]))] ++ va_pl L M_680) H_697 := hP
                          have hD : va_D A ([(za, .inr (13, [.int 0, .ref z1, .int (nI z2), .int (nI z3), .int z4, .int z5, .ref z6, .ref z7, .ref z8, .ref z9, .int (nI z10), .ref z11, .ref z12, .ref z13, .ref z14, .ref z15, .int (nI zgw36), .ref z17, .int z18, .ref z19]))] ++ va_pl L M_680) := hD
                          obtain ⟨f701, hM701⟩ := hW.open_14 i12
                          refine pg_iast hx hb hK hP hD hS i12.1 0 hM701 rfl (inbN zgw36 24 (by omega) (by omega)) dX13_bear_255 (fun H_702 locs hP hD hS => ?_)
                          obtain ⟨M_703, eM_703⟩ : ∃ M1 : Hp, M1 = va_up M_680 z12 (.inl (cy 14, 24, .inl (upd f701 ((nI zgw36) : Int32).toNatClampNeg r_698))) := ⟨_, rfl⟩
                          have hP : va_P D vwCl ([(za, .inr (13, [.int 0, .ref z1, .int (nI z2), .int (nI z3), .int z4, .int z5, .ref z6, .ref z7, .ref z8, .ref z9, .int (nI z10), .ref z11, .ref z12, .ref z13, .ref z14, .ref z15, .int (nI zgw36), .ref z17, .int z18, .ref z19]))] ++ va_pl L M_703) H_702 := by rw [eM_703]; exact hP
                          have hD : va_D A ([(za, .inr (13, [.int 0, .ref z1, .int (nI z2), .int (nI z3), .int z4, .int z5, .ref z6, .ref z7, .ref z8, .ref z9, .int (nI z10), .ref z11, .ref z12, .ref z13, .ref z14, .ref z15, .int (nI zgw36), .ref z17, .int z18, .ref z19]))] ++ va_pl L M_703) := by rw [eM_703]; exact hD
                          have hW : WOM cy K L M_703 := by rw [eM_703]; exact hW.up_14 i12 ⟨_, rfl⟩
                          have hF : fr K L [14, 15, 32] M M_703 := by rw [eM_703]; exact hF.up i12 (by decide)
                          have hM_704 : M_703 z12 = .inl (cy 14, 24, .inl (upd f701 ((nI zgw36) : Int32).toNatClampNeg r_698)) := by rw [eM_703]; exact va_up_self _ _ _
                          have hM_705 : M_703 z11 = .inl (cy 14, 24, .inl (f_686)) := by rw [eM_703, va_up_ne _ _ (i11.neT i12 (by decide))]; exact hM_681
                          have hM_706 : M_703 b11 = .inr (12, fs14) := by rw [eM_703, va_up_ne _ _ (hb_13.neT i12 (by decide))]; exact hM_682
                          have hM_707 : M_703 v656 = .inl (cy 14, 24, .inl (f657)) := by rw [eM_703, va_up_ne _ _ (hc656.neT i12 (by decide))]; exact hM_683
                          have hM_708 : M_703 v662 = .inl (cy 16, 24, .inl (f663)) := by rw [eM_703, va_up_ne _ _ (hc662.neT i12 (by decide))]; exact hM_684
                          have hM_709 : M_703 v670 = .inl (cy 14, 24, .inl (f671)) := by rw [eM_703, va_up_ne _ _ (hc670.neT i12 (by decide))]; exact hM_685
                          have hM_710 : M_703 v690 = .inl (cy 14, 24, .inl (f691)) := by rw [eM_703, va_up_ne _ _ (hc690.neT i12 (by decide))]; exact hM691
                          obtain ⟨f_711, ef_711⟩ : ∃ f : Nat → Int32, f = upd f701 ((nI zgw36) : Int32).toNatClampNeg r_698 := ⟨_, rfl⟩
                          rw [← ef_711] at hM_704
                          clear ef_711
                          refine lv_aload_n hx hb dX13_bear_256 rfl (lv_at hl 4 rfl) ?_
                          refine va_get (D := D) (ci := 13) (v := .ref z13) (C := RX13) (T := TX13) (N := 20) hx hb hg inG13 hown hK hP 0 rfl rfl 13 (by decide) (hg _ wd_789) (fun _ h9 => h9) rfl dX13_bear_257 ?_
                          refine lv_aload_n hx hb dX13_bear_260 rfl (lv_at hl 4 rfl) ?_
                          refine va_get (D := D) (ci := 13) (v := .int (nI zgw36)) (C := RX13) (T := TX13) (N := 20) hx hb hg inG13 hown hK hP 0 rfl rfl 16 (by decide) (hg _ wd_769) (fun _ h9 => h9) rfl dX13_bear_261 ?_
                          refine lv_lconst (v := 0) hx hb dX13_bear_264 (by decide) ?_
                          obtain ⟨f712, hM712⟩ := hW.open_15 i13
                          refine pg_last hx hb hK hP hD hS i13.1 1 hM712 rfl (inbN zgw36 24 (by omega) (by omega)) dX13_bear_265 (fun H_713 locs hP hD hS => ?_)
                          obtain ⟨M_714, eM_714⟩ : ∃ M1 : Hp, M1 = va_up M_703 z13 (.inl (cy 15, 24, .inr (.inl (vp_updL f712 ((nI zgw36) : Int32).toNatClampNeg 0)))) := ⟨_, rfl⟩
                          have hP : va_P D vwCl ([(za, .inr (13, [.int 0, .ref z1, .int (nI z2), .int (nI z3), .int z4, .int z5, .ref z6, .ref z7, .ref z8, .ref z9, .int (nI z10), .ref z11, .ref z12, .ref z13, .ref z14, .ref z15, .int (nI zgw36), .ref z17, .int z18, .ref z19]))] ++ va_pl L M_714) H_713 := by rw [eM_714]; exact hP
                          have hD : va_D A ([(za, .inr (13, [.int 0, .ref z1, .int (nI z2), .int (nI z3), .int z4, .int z5, .ref z6, .ref z7, .ref z8, .ref z9, .int (nI z10), .ref z11, .ref z12, .ref z13, .ref z14, .ref z15, .int (nI zgw36), .ref z17, .int z18, .ref z19]))] ++ va_pl L M_714) := by rw [eM_714]; exact hD
                          have hW : WOM cy K L M_714 := by rw [eM_714]; exact hW.up_15 i13 ⟨_, rfl⟩
                          have hF : fr K L [14, 15, 32] M M_714 := by rw [eM_714]; exact hF.up i13 (by decide)
                          have hM_715 : M_714 z13 = .inl (cy 15, 24, .inr (.inl (vp_updL f712 ((nI zgw36) : Int32).toNatClampNeg 0))) := by rw [eM_714]; exact va_up_self _ _ _
                          have hM_716 : M_714 z12 = .inl (cy 14, 24, .inl (f_711)) := by rw [eM_714, va_up_ne _ _ (i12.neT i13 (by decide))]; exact hM_704
                          have hM_717 : M_714 z11 = .inl (cy 14, 24, .inl (f_686)) := by rw [eM_714, va_up_ne _ _ (i11.neT i13 (by decide))]; exact hM_705
                          have hM_718 : M_714 b11 = .inr (12, fs14) := by rw [eM_714, va_up_ne _ _ (hb_13.neT i13 (by decide))]; exact hM_706
                          have hM_719 : M_714 v656 = .inl (cy 14, 24, .inl (f657)) := by rw [eM_714, va_up_ne _ _ (hc656.neT i13 (by decide))]; exact hM_707
                          have hM_720 : M_714 v662 = .inl (cy 16, 24, .inl (f663)) := by rw [eM_714, va_up_ne _ _ (hc662.neT i13 (by decide))]; exact hM_708
                          have hM_721 : M_714 v670 = .inl (cy 14, 24, .inl (f671)) := by rw [eM_714, va_up_ne _ _ (hc670.neT i13 (by decide))]; exact hM_709
                          have hM_722 : M_714 v690 = .inl (cy 14, 24, .inl (f691)) := by rw [eM_714, va_up_ne _ _ (hc690.neT i13 (by decide))]; exact hM_710
                          obtain ⟨f_723, ef_723⟩ : ∃ f : Nat → Int64, f = vp_updL f712 ((nI zgw36) : Int32).toNatClampNeg 0 := ⟨_, rfl⟩
                          rw [← ef_723] at hM_715
                          clear ef_723
                          refine lv_aload_n hx hb dX13_bear_266 rfl (lv_at hl 4 rfl) ?_
                          refine lv_dup hx hb dX13_bear_267 rfl ?_
                          refine va_get (D := D) (ci := 13) (v := .int (nI zgw36)) (C := RX13) (T := TX13) (N := 20) hx hb hg inG13 hown hK hP 0 rfl rfl 16 (by decide) (hg _ wd_769) (fun _ h9 => h9) rfl dX13_bear_268 ?_
                          refine lv_iconst (v := 1) hx hb dX13_bear_271 (by decide) ?_
                          refine lv_iadd hx hb dX13_bear_272 ?_
                          refine lv_topi (fun f_724 ef_724 => ?_)
                          obtain rfl : f_724 = (nI (zgw36 + 1)) := ef_724.trans (nI_add zgw36 1)
                          refine va_put (D := D) (ci := 13) (v := .int (nI (zgw36 + 1))) (ty := .int) (C := RX13) (T := TX13) (N := 20) hx hb hg inG13 tyX13 tyX13_ok nmX13 hown hK hP hD hS 0 rfl rfl 16 (by decide) (hg _ wd_769) (fun _ h9 => h9) rfl (by decide +kernel) rfl rfl (Nat.le_of_ble_eq_true rfl) dX13_bear_273 (fun H_725 locs hP hD hS => ?_)
                          have hP : va_P D vwCl ([(za, .inr (13, [.int 0, .ref z1, .int (nI z2), .int (nI z3), .int z4, .int z5, .ref z6, .ref z7, .ref z8, .ref z9, .int (nI z10), .ref z11, .ref z12, .ref z13, .ref z14, .ref z15, .int (nI (zgw36 + 1)), .ref z17, .int z18, .ref z19]))] ++ va_pl L M_714) H_725 := hP
                          have hD : va_D A ([(za, .inr (13, [.int 0, .ref z1, .int (nI z2), .int (nI z3), .int z4, .int z5, .ref z6, .ref z7, .ref z8, .ref z9, .int (nI z10), .ref z11, .ref z12, .ref z13, .ref z14, .ref z15, .int (nI (zgw36 + 1)), .ref z17, .int z18, .ref z19]))] ++ va_pl L M_714) := hD
                          refine lv_iinc (v := (nI (v5w36 + 1))) (lv' := [(5, .int (nI (v5w36 + 1))), (7, .int 1), (6, .int 0), (4, .ref b11), (0, .ref za), (1, .int k1), (2, .int k2), (3, .int k3)]) hx hb dX13_bear_276 hl (k := 2) rfl (nI_1 v5w36) (by decide) rfl (fun ls hl => ?_)
                          refine lv_goto (tgt := 82) hx hb dX13_bear_279 (by decide) ?_
                          exact ih_34 (v5w36 + 1) (zgw36 + 1) M_714 H_725 _ _ (by omega) hM_718 (by omega) (by omega) hW hF hP hD hS (lv_sub hl [0, 3, 4, 5, 6, 7] rfl)
            exact key_33 (24 - 0 + 1) 0 0 M H_32 _ _ (by omega) hM14 (by omega) (by omega) hW hF hP hD hS (lv_sub hl [0, 1, 2, 3, 4, 5] rfl)
          · have hz := rfl (a := 0)
            refine lv_aload_n hx hb dX13_bear_68 rfl (lv_at hl 1 rfl) ?_
            refine lv_iconst (v := 3) hx hb dX13_bear_69 (by decide) ?_
            have hPc := hP.sub (ws' := [(za, .inr (13, [.int 0, .ref z1, .int (nI z2), .int (nI z3), .int z4, .int z5, .ref z6, .ref z7, .ref z8, .ref z9, .int (nI z10), .ref z11, .ref z12, .ref z13, .ref z14, .ref z15, .int (nI z16), .ref z17, .int z18, .ref z19]))]) [0] rfl
            have hDc := hD.sub (ws' := [(za, .inr (13, [.int 0, .ref z1, .int (nI z2), .int (nI z3), .int z4, .int z5, .ref z6, .ref z7, .ref z8, .ref z9, .int (nI z10), .ref z11, .ref z12, .ref z13, .ref z14, .ref z15, .int (nI z16), .ref z17, .int z18, .ref z19]))]) [0] (by decide) rfl
            have hKc := hK.sub (tys' := []) [] rfl
            have hFc := va_free (wc := [(za, .inr (13, [.int 0, .ref z1, .int (nI z2), .int (nI z3), .int z4, .int z5, .ref z6, .ref z7, .ref z8, .ref z9, .int (nI z10), .ref z11, .ref z12, .ref z13, .ref z14, .ref z15, .int (nI z16), .ref z17, .int z18, .ref z19]))]) hD hS hA [0] rfl
            refine va_calli (va_runV (As := [.int 3]) (rest := []) ⟨hx, hb, hml, hown, hg⟩ (m_refused l D H_18.size za 0 z1 (nI z2) (nI z3) z4 z5 z6 z7 z8 z9 (nI z10) z11 z12 z13 z14 z15 (nI z16) z17 z18 z19 3) (cwV 1 hg (gV wd_725 wd_726 wd_727 wd_717 wd_728) rfl rfl rfl (by decide +kernel) ⟨(Nat.le_trans (Nat.le_of_ble_eq_true rfl) hRf), (Nat.le_trans (Nat.le_of_ble_eq_true rfl) hRl)⟩) ⟨Pr.blind, va_recv hK hP (ci := 13) (q0 := 0) rfl rfl, fun U hU hW => ⟨rfl, Pr.at hPc hKc hDc hN hU hW⟩⟩ rfl rfl hl.1 rfl (lv_room (Nat.le_of_ble_eq_true rfl)) dX13_bear_70 ⟨(Nat.le_trans (Nat.le_of_ble_eq_true rfl) hRc), (Nat.le_trans (Nat.le_of_ble_eq_true rfl) hRs)⟩) hS (fun q _ h => hFc q h) hFc (fun r_727 M_728 t H_726 locs ht hvm hw hB hz1 hk1 hS => ?_)
            have hp_729 := hw
            obtain ⟨hP1, hK1, hD1⟩ := hB
            rw [ht] at hP1
            obtain ⟨hP, hD⟩ := va_joinQ (X := [(za, .inr (13, [.int 0, .ref z1, .int (nI z2), .int (nI z3), .int z4, .int z5, .ref z6, .ref z7, .ref z8, .ref z9, .int (nI z10), .ref z11, .ref z12, .ref z13, .ref z14, .ref z15, .int (nI z16), .ref z17, .int z18, .ref z19]))]) (cx := [(za, .inr (13, [.int 0, .ref z1, .int (nI z2), .int (nI z3), .int z4, .int z5, .ref z6, .ref z7, .ref z8, .ref z9, .int (nI z10), .ref z11, .ref z12, .ref z13, .ref z14, .ref z15, .int (nI z16), .ref z17, .int z18, .ref z19]))]) (wr := []) (w1 := [(za, .inr (13, [.int 0, .ref z1, .int (nI z2), .int (nI z3), .int 3, .int (-1), .ref z6, .ref z7, .ref z8, .ref z9, .int (nI z10), .ref z11, .ref z12, .ref z13, .ref z14, .ref z15, .int (nI z16), .ref z17, .int z18, .ref z19]))]) (pl := va_pl L M) hP hD [0] [] rfl rfl (by decide) (by decide) hk1 hFc hP1 hD1
            have hP : va_P D vwCl ([(za, .inr (13, [.int 0, .ref z1, .int (nI z2), .int (nI z3), .int 3, .int (-1), .ref z6, .ref z7, .ref z8, .ref z9, .int (nI z10), .ref z11, .ref z12, .ref z13, .ref z14, .ref z15, .int (nI z16), .ref z17, .int z18, .ref z19]))] ++ va_pl L M) H_726 := hP
            have hD : va_D A ([(za, .inr (13, [.int 0, .ref z1, .int (nI z2), .int (nI z3), .int 3, .int (-1), .ref z6, .ref z7, .ref z8, .ref z9, .int (nI z10), .ref z11, .ref z12, .ref z13, .ref z14, .ref z15, .int (nI z16), .ref z17, .int z18, .ref z19]))] ++ va_pl L M) := hD
            have hq := Eq.symm hp_729
            subst hq
            rw [hQ]
            exact W.iret (v := (-1)) hx hb hr (fun t ht hW9 => ⟨⟨(-1), M, rfl, ⟨hW, hF, trivial⟩, ⟨3, (-1), z16, z18, (by omega), by rw [ht]; exact hP, hD⟩⟩, hS.F ht⟩) hS.2.2 dX13_bear_73
      · have hz := rfl (a := 0)
        refine lv_if_ne (tgt := 44) hx hb dX13_bear_35 (by decide) (fun c_730 => absurd c_730 (by decide)) (fun _ => ?_)
        refine lv_aload_n hx hb dX13_bear_38 rfl (lv_at hl 0 rfl) ?_
        refine lv_iconst (v := 2) hx hb dX13_bear_39 (by decide) ?_
        have hPc := hP.sub (ws' := [(za, .inr (13, [.int 0, .ref z1, .int (nI z2), .int (nI z3), .int z4, .int z5, .ref z6, .ref z7, .ref z8, .ref z9, .int (nI z10), .ref z11, .ref z12, .ref z13, .ref z14, .ref z15, .int (nI z16), .ref z17, .int z18, .ref z19]))]) [0] rfl
        have hDc := hD.sub (ws' := [(za, .inr (13, [.int 0, .ref z1, .int (nI z2), .int (nI z3), .int z4, .int z5, .ref z6, .ref z7, .ref z8, .ref z9, .int (nI z10), .ref z11, .ref z12, .ref z13, .ref z14, .ref z15, .int (nI z16), .ref z17, .int z18, .ref z19]))]) [0] (by decide) rfl
        have hKc := hK.sub (tys' := []) [] rfl
        have hFc := va_free (wc := [(za, .inr (13, [.int 0, .ref z1, .int (nI z2), .int (nI z3), .int z4, .int z5, .ref z6, .ref z7, .ref z8, .ref z9, .int (nI z10), .ref z11, .ref z12, .ref z13, .ref z14, .ref z15, .int (nI z16), .ref z17, .int z18, .ref z19]))]) hD hS hA [0] rfl
        refine va_calli (va_runV (As := [.int 2]) (rest := []) ⟨hx, hb, hml, hown, hg⟩ (m_refused l D H_18.size za 0 z1 (nI z2) (nI z3) z4 z5 z6 z7 z8 z9 (nI z10) z11 z12 z13 z14 z15 (nI z16) z17 z18 z19 2) (cwV 1 hg (gV wd_725 wd_726 wd_727 wd_717 wd_728) rfl rfl rfl (by decide +kernel) ⟨(Nat.le_trans (Nat.le_of_ble_eq_true rfl) hRf), (Nat.le_trans (Nat.le_of_ble_eq_true rfl) hRl)⟩) ⟨Pr.blind, va_recv hK hP (ci := 13) (q0 := 0) rfl rfl, fun U hU hW => ⟨rfl, Pr.at hPc hKc hDc hN hU hW⟩⟩ rfl rfl hl.1 rfl (lv_room (Nat.le_of_ble_eq_true rfl)) dX13_bear_40 ⟨(Nat.le_trans (Nat.le_of_ble_eq_true rfl) hRc), (Nat.le_trans (Nat.le_of_ble_eq_true rfl) hRs)⟩) hS (fun q _ h => hFc q h) hFc (fun r_732 M_733 t H_731 locs ht hvm hw hB hz1 hk1 hS => ?_)
        have hp_734 := hw
        obtain ⟨hP1, hK1, hD1⟩ := hB
        rw [ht] at hP1
        obtain ⟨hP, hD⟩ := va_joinQ (X := [(za, .inr (13, [.int 0, .ref z1, .int (nI z2), .int (nI z3), .int z4, .int z5, .ref z6, .ref z7, .ref z8, .ref z9, .int (nI z10), .ref z11, .ref z12, .ref z13, .ref z14, .ref z15, .int (nI z16), .ref z17, .int z18, .ref z19]))]) (cx := [(za, .inr (13, [.int 0, .ref z1, .int (nI z2), .int (nI z3), .int z4, .int z5, .ref z6, .ref z7, .ref z8, .ref z9, .int (nI z10), .ref z11, .ref z12, .ref z13, .ref z14, .ref z15, .int (nI z16), .ref z17, .int z18, .ref z19]))]) (wr := []) (w1 := [(za, .inr (13, [.int 0, .ref z1, .int (nI z2), .int (nI z3), .int 2, .int (-1), .ref z6, .ref z7, .ref z8, .ref z9, .int (nI z10), .ref z11, .ref z12, .ref z13, .ref z14, .ref z15, .int (nI z16), .ref z17, .int z18, .ref z19]))]) (pl := va_pl L M) hP hD [0] [] rfl rfl (by decide) (by decide) hk1 hFc hP1 hD1
        have hP : va_P D vwCl ([(za, .inr (13, [.int 0, .ref z1, .int (nI z2), .int (nI z3), .int 2, .int (-1), .ref z6, .ref z7, .ref z8, .ref z9, .int (nI z10), .ref z11, .ref z12, .ref z13, .ref z14, .ref z15, .int (nI z16), .ref z17, .int z18, .ref z19]))] ++ va_pl L M) H_731 := hP
        have hD : va_D A ([(za, .inr (13, [.int 0, .ref z1, .int (nI z2), .int (nI z3), .int 2, .int (-1), .ref z6, .ref z7, .ref z8, .ref z9, .int (nI z10), .ref z11, .ref z12, .ref z13, .ref z14, .ref z15, .int (nI z16), .ref z17, .int z18, .ref z19]))] ++ va_pl L M) := hD
        have hq := Eq.symm hp_734
        subst hq
        rw [hQ]
        exact W.iret (v := (-1)) hx hb hr (fun t ht hW9 => ⟨⟨(-1), M, rfl, ⟨hW, hF, trivial⟩, ⟨2, (-1), z16, z18, (by omega), by rw [ht]; exact hP, hD⟩⟩, hS.F ht⟩) hS.2.2 dX13_bear_43
    · have hz := rfl (a := 0)
      have n_735 : v15 = 0 := (iEQ (a := v15) (b := 0) (by omega) (by omega)).mp c_16
      refine lv_aload_n hx hb dX13_bear_25 rfl (lv_at hl 0 rfl) ?_
      refine lv_iconst (v := 1) hx hb dX13_bear_26 (by decide) ?_
      have hPc := hP.sub (ws' := [(za, .inr (13, [.int 0, .ref z1, .int (nI z2), .int (nI z3), .int z4, .int z5, .ref z6, .ref z7, .ref z8, .ref z9, .int (nI z10), .ref z11, .ref z12, .ref z13, .ref z14, .ref z15, .int (nI z16), .ref z17, .int z18, .ref z19]))]) [0] rfl
      have hDc := hD.sub (ws' := [(za, .inr (13, [.int 0, .ref z1, .int (nI z2), .int (nI z3), .int z4, .int z5, .ref z6, .ref z7, .ref z8, .ref z9, .int (nI z10), .ref z11, .ref z12, .ref z13, .ref z14, .ref z15, .int (nI z16), .ref z17, .int z18, .ref z19]))]) [0] (by decide) rfl
      have hKc := hK.sub (tys' := []) [] rfl
      have hFc := va_free (wc := [(za, .inr (13, [.int 0, .ref z1, .int (nI z2), .int (nI z3), .int z4, .int z5, .ref z6, .ref z7, .ref z8, .ref z9, .int (nI z10), .ref z11, .ref z12, .ref z13, .ref z14, .ref z15, .int (nI z16), .ref z17, .int z18, .ref z19]))]) hD hS hA [0] rfl
      refine va_calli (va_runV (As := [.int 1]) (rest := []) ⟨hx, hb, hml, hown, hg⟩ (m_refused l D H_2.size za 0 z1 (nI z2) (nI z3) z4 z5 z6 z7 z8 z9 (nI z10) z11 z12 z13 z14 z15 (nI z16) z17 z18 z19 1) (cwV 1 hg (gV wd_725 wd_726 wd_727 wd_717 wd_728) rfl rfl rfl (by decide +kernel) ⟨(Nat.le_trans (Nat.le_of_ble_eq_true rfl) hRf), (Nat.le_trans (Nat.le_of_ble_eq_true rfl) hRl)⟩) ⟨Pr.blind, va_recv hK hP (ci := 13) (q0 := 0) rfl rfl, fun U hU hW => ⟨rfl, Pr.at hPc hKc hDc hN hU hW⟩⟩ rfl rfl hl.1 rfl (lv_room (Nat.le_of_ble_eq_true rfl)) dX13_bear_27 ⟨(Nat.le_trans (Nat.le_of_ble_eq_true rfl) hRc), (Nat.le_trans (Nat.le_of_ble_eq_true rfl) hRs)⟩) hS (fun q _ h => hFc q h) hFc (fun r_737 M_738 t H_736 locs ht hvm hw hB hz1 hk1 hS => ?_)
      have hp_739 := hw
      obtain ⟨hP1, hK1, hD1⟩ := hB
      rw [ht] at hP1
      obtain ⟨hP, hD⟩ := va_joinQ (X := [(za, .inr (13, [.int 0, .ref z1, .int (nI z2), .int (nI z3), .int z4, .int z5, .ref z6, .ref z7, .ref z8, .ref z9, .int (nI z10), .ref z11, .ref z12, .ref z13, .ref z14, .ref z15, .int (nI z16), .ref z17, .int z18, .ref z19]))]) (cx := [(za, .inr (13, [.int 0, .ref z1, .int (nI z2), .int (nI z3), .int z4, .int z5, .ref z6, .ref z7, .ref z8, .ref z9, .int (nI z10), .ref z11, .ref z12, .ref z13, .ref z14, .ref z15, .int (nI z16), .ref z17, .int z18, .ref z19]))]) (wr := []) (w1 := [(za, .inr (13, [.int 0, .ref z1, .int (nI z2), .int (nI z3), .int 1, .int (-1), .ref z6, .ref z7, .ref z8, .ref z9, .int (nI z10), .ref z11, .ref z12, .ref z13, .ref z14, .ref z15, .int (nI z16), .ref z17, .int z18, .ref z19]))]) (pl := va_pl L M) hP hD [0] [] rfl rfl (by decide) (by decide) hk1 hFc hP1 hD1
      have hP : va_P D vwCl ([(za, .inr (13, [.int 0, .ref z1, .int (nI z2), .int (nI z3), .int 1, .int (-1), .ref z6, .ref z7, .ref z8, .ref z9, .int (nI z10), .ref z11, .ref z12, .ref z13, .ref z14, .ref z15, .int (nI z16), .ref z17, .int z18, .ref z19]))] ++ va_pl L M) H_736 := hP
      have hD : va_D A ([(za, .inr (13, [.int 0, .ref z1, .int (nI z2), .int (nI z3), .int 1, .int (-1), .ref z6, .ref z7, .ref z8, .ref z9, .int (nI z10), .ref z11, .ref z12, .ref z13, .ref z14, .ref z15, .int (nI z16), .ref z17, .int z18, .ref z19]))] ++ va_pl L M) := hD
      have hq := Eq.symm hp_739
      subst hq
      rw [hQ]
      exact W.iret (v := (-1)) hx hb hr (fun t ht hW9 => ⟨⟨(-1), M, rfl, ⟨hW, hF, trivial⟩, ⟨1, (-1), z16, z18, (by omega), by rw [ht]; exact hP, hD⟩⟩, hS.F ht⟩) hS.2.2 dX13_bear_30
  · have hz := rfl (a := 0)
    refine lv_if_eq (tgt := 25) hx hb dX13_bear_10 (by decide) (fun _ => ?_) (fun c_740 => absurd c_740 (by decide))
    refine lv_aload_n hx hb dX13_bear_25 rfl (lv_at hl 0 rfl) ?_
    refine lv_iconst (v := 1) hx hb dX13_bear_26 (by decide) ?_
    have hPc := hP.sub (ws' := [(za, .inr (13, [.int 0, .ref z1, .int (nI z2), .int (nI z3), .int z4, .int z5, .ref z6, .ref z7, .ref z8, .ref z9, .int (nI z10), .ref z11, .ref z12, .ref z13, .ref z14, .ref z15, .int (nI z16), .ref z17, .int z18, .ref z19]))]) [0] rfl
    have hDc := hD.sub (ws' := [(za, .inr (13, [.int 0, .ref z1, .int (nI z2), .int (nI z3), .int z4, .int z5, .ref z6, .ref z7, .ref z8, .ref z9, .int (nI z10), .ref z11, .ref z12, .ref z13, .ref z14, .ref z15, .int (nI z16), .ref z17, .int z18, .ref z19]))]) [0] (by decide) rfl
    have hKc := hK.sub (tys' := []) [] rfl
    have hFc := va_free (wc := [(za, .inr (13, [.int 0, .ref z1, .int (nI z2), .int (nI z3), .int z4, .int z5, .ref z6, .ref z7, .ref z8, .ref z9, .int (nI z10), .ref z11, .ref z12, .ref z13, .ref z14, .ref z15, .int (nI z16), .ref z17, .int z18, .ref z19]))]) hD hS hA [0] rfl
    refine va_calli (va_runV (As := [.int 1]) (rest := []) ⟨hx, hb, hml, hown, hg⟩ (m_refused l D H_2.size za 0 z1 (nI z2) (nI z3) z4 z5 z6 z7 z8 z9 (nI z10) z11 z12 z13 z14 z15 (nI z16) z17 z18 z19 1) (cwV 1 hg (gV wd_725 wd_726 wd_727 wd_717 wd_728) rfl rfl rfl (by decide +kernel) ⟨(Nat.le_trans (Nat.le_of_ble_eq_true rfl) hRf), (Nat.le_trans (Nat.le_of_ble_eq_true rfl) hRl)⟩) ⟨Pr.blind, va_recv hK hP (ci := 13) (q0 := 0) rfl rfl, fun U hU hW => ⟨rfl, Pr.at hPc hKc hDc hN hU hW⟩⟩ rfl rfl hl.1 rfl (lv_room (Nat.le_of_ble_eq_true rfl)) dX13_bear_27 ⟨(Nat.le_trans (Nat.le_of_ble_eq_true rfl) hRc), (Nat.le_trans (Nat.le_of_ble_eq_true rfl) hRs)⟩) hS (fun q _ h => hFc q h) hFc (fun r_742 M_743 t H_741 locs ht hvm hw hB hz1 hk1 hS => ?_)
    have hp_744 := hw
    obtain ⟨hP1, hK1, hD1⟩ := hB
    rw [ht] at hP1
    obtain ⟨hP, hD⟩ := va_joinQ (X := [(za, .inr (13, [.int 0, .ref z1, .int (nI z2), .int (nI z3), .int z4, .int z5, .ref z6, .ref z7, .ref z8, .ref z9, .int (nI z10), .ref z11, .ref z12, .ref z13, .ref z14, .ref z15, .int (nI z16), .ref z17, .int z18, .ref z19]))]) (cx := [(za, .inr (13, [.int 0, .ref z1, .int (nI z2), .int (nI z3), .int z4, .int z5, .ref z6, .ref z7, .ref z8, .ref z9, .int (nI z10), .ref z11, .ref z12, .ref z13, .ref z14, .ref z15, .int (nI z16), .ref z17, .int z18, .ref z19]))]) (wr := []) (w1 := [(za, .inr (13, [.int 0, .ref z1, .int (nI z2), .int (nI z3), .int 1, .int (-1), .ref z6, .ref z7, .ref z8, .ref z9, .int (nI z10), .ref z11, .ref z12, .ref z13, .ref z14, .ref z15, .int (nI z16), .ref z17, .int z18, .ref z19]))]) (pl := va_pl L M) hP hD [0] [] rfl rfl (by decide) (by decide) hk1 hFc hP1 hD1
    have hP : va_P D vwCl ([(za, .inr (13, [.int 0, .ref z1, .int (nI z2), .int (nI z3), .int 1, .int (-1), .ref z6, .ref z7, .ref z8, .ref z9, .int (nI z10), .ref z11, .ref z12, .ref z13, .ref z14, .ref z15, .int (nI z16), .ref z17, .int z18, .ref z19]))] ++ va_pl L M) H_741 := hP
    have hD : va_D A ([(za, .inr (13, [.int 0, .ref z1, .int (nI z2), .int (nI z3), .int 1, .int (-1), .ref z6, .ref z7, .ref z8, .ref z9, .int (nI z10), .ref z11, .ref z12, .ref z13, .ref z14, .ref z15, .int (nI z16), .ref z17, .int z18, .ref z19]))] ++ va_pl L M) := hD
    have hq := Eq.symm hp_744
    subst hq
    rw [hQ]
    exact W.iret (v := (-1)) hx hb hr (fun t ht hW9 => ⟨⟨(-1), M, rfl, ⟨hW, hF, trivial⟩, ⟨1, (-1), z16, z18, (by omega), by rw [ht]; exact hP, hD⟩⟩, hS.F ht⟩) hS.2.2 dX13_bear_30
