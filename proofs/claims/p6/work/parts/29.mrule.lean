theorem dX13_hidden_0 : decode cX13_hidden 0 = .ok (.aload_n 0, 1) := by decide +kernel
theorem dX13_hidden_1 : decode cX13_hidden 1 = .ok (.iconst 0, 1) := by decide +kernel
theorem dX13_hidden_2 : decode cX13_hidden 2 = .ok (.putfield 55, 3) := by decide +kernel
theorem dX13_hidden_5 : decode cX13_hidden 5 = .ok (.aload_n 0, 1) := by decide +kernel
theorem dX13_hidden_6 : decode cX13_hidden 6 = .ok (.iload_n 1, 1) := by decide +kernel
theorem dX13_hidden_7 : decode cX13_hidden 7 = .ok (.invokevirtual 64, 3) := by decide +kernel
theorem dX13_hidden_10 : decode cX13_hidden 10 = .ok (.ifCond .eq 15, 3) := by decide +kernel
theorem dX13_hidden_13 : decode cX13_hidden 13 = .ok (.aload_n 0, 1) := by decide +kernel
theorem dX13_hidden_14 : decode cX13_hidden 14 = .ok (.getfield 12, 3) := by decide +kernel
theorem dX13_hidden_17 : decode cX13_hidden 17 = .ok (.iload_n 1, 1) := by decide +kernel
theorem dX13_hidden_18 : decode cX13_hidden 18 = .ok (.aaload, 1) := by decide +kernel
theorem dX13_hidden_19 : decode cX13_hidden 19 = .ok (.getfield 142, 3) := by decide +kernel
theorem dX13_hidden_22 : decode cX13_hidden 22 = .ok (.ifCond .ne 9, 3) := by decide +kernel
theorem dX13_hidden_25 : decode cX13_hidden 25 = .ok (.aload_n 0, 1) := by decide +kernel
theorem dX13_hidden_26 : decode cX13_hidden 26 = .ok (.iconst 1, 1) := by decide +kernel
theorem dX13_hidden_27 : decode cX13_hidden 27 = .ok (.invokevirtual 73, 3) := by decide +kernel
theorem dX13_hidden_30 : decode cX13_hidden 30 = .ok (.ireturn, 1) := by decide +kernel
theorem dX13_hidden_31 : decode cX13_hidden 31 = .ok (.iload_n 3, 1) := by decide +kernel
theorem dX13_hidden_32 : decode cX13_hidden 32 = .ok (.invokestatic 164, 3) := by decide +kernel
theorem dX13_hidden_35 : decode cX13_hidden 35 = .ok (.ifCond .ne 9, 3) := by decide +kernel
theorem dX13_hidden_38 : decode cX13_hidden 38 = .ok (.aload_n 0, 1) := by decide +kernel
theorem dX13_hidden_39 : decode cX13_hidden 39 = .ok (.iconst 2, 1) := by decide +kernel
theorem dX13_hidden_40 : decode cX13_hidden 40 = .ok (.invokevirtual 73, 3) := by decide +kernel
theorem dX13_hidden_43 : decode cX13_hidden 43 = .ok (.ireturn, 1) := by decide +kernel
theorem dX13_hidden_44 : decode cX13_hidden 44 = .ok (.aload_n 0, 1) := by decide +kernel
theorem dX13_hidden_45 : decode cX13_hidden 45 = .ok (.getfield 12, 3) := by decide +kernel
theorem dX13_hidden_48 : decode cX13_hidden 48 = .ok (.iload_n 1, 1) := by decide +kernel
theorem dX13_hidden_49 : decode cX13_hidden 49 = .ok (.aaload, 1) := by decide +kernel
theorem dX13_hidden_50 : decode cX13_hidden 50 = .ok (.astore 4, 2) := by decide +kernel
theorem dX13_hidden_52 : decode cX13_hidden 52 = .ok (.iload_n 2, 1) := by decide +kernel
theorem dX13_hidden_53 : decode cX13_hidden 53 = .ok (.aload 4, 2) := by decide +kernel
theorem dX13_hidden_55 : decode cX13_hidden 55 = .ok (.getfield 77, 3) := by decide +kernel
theorem dX13_hidden_58 : decode cX13_hidden 58 = .ok (.if_icmp .lt 10, 3) := by decide +kernel
theorem dX13_hidden_61 : decode cX13_hidden 61 = .ok (.iload_n 2, 1) := by decide +kernel
theorem dX13_hidden_62 : decode cX13_hidden 62 = .ok (.sipush 1000, 3) := by decide +kernel
theorem dX13_hidden_65 : decode cX13_hidden 65 = .ok (.if_icmp .lt 9, 3) := by decide +kernel
theorem dX13_hidden_68 : decode cX13_hidden 68 = .ok (.aload_n 0, 1) := by decide +kernel
theorem dX13_hidden_69 : decode cX13_hidden 69 = .ok (.iconst 3, 1) := by decide +kernel
theorem dX13_hidden_70 : decode cX13_hidden 70 = .ok (.invokevirtual 73, 3) := by decide +kernel
theorem dX13_hidden_73 : decode cX13_hidden 73 = .ok (.ireturn, 1) := by decide +kernel
theorem dX13_hidden_74 : decode cX13_hidden 74 = .ok (.aload_n 0, 1) := by decide +kernel
theorem dX13_hidden_75 : decode cX13_hidden 75 = .ok (.aload 4, 2) := by decide +kernel
theorem dX13_hidden_77 : decode cX13_hidden 77 = .ok (.iload_n 2, 1) := by decide +kernel
theorem dX13_hidden_78 : decode cX13_hidden 78 = .ok (.invokevirtual 331, 3) := by decide +kernel
theorem dX13_hidden_81 : decode cX13_hidden 81 = .ok (.aload_n 0, 1) := by decide +kernel
theorem dX13_hidden_82 : decode cX13_hidden 82 = .ok (.aload 4, 2) := by decide +kernel
theorem dX13_hidden_84 : decode cX13_hidden 84 = .ok (.aload 4, 2) := by decide +kernel
theorem dX13_hidden_86 : decode cX13_hidden 86 = .ok (.iload_n 2, 1) := by decide +kernel
theorem dX13_hidden_87 : decode cX13_hidden 87 = .ok (.invokevirtual 321, 3) := by decide +kernel
theorem dX13_hidden_90 : decode cX13_hidden 90 = .ok (.iconst 2, 1) := by decide +kernel
theorem dX13_hidden_91 : decode cX13_hidden 91 = .ok (.invokevirtual 351, 3) := by decide +kernel
theorem dX13_hidden_94 : decode cX13_hidden 94 = .ok (.aload_n 0, 1) := by decide +kernel
theorem dX13_hidden_95 : decode cX13_hidden 95 = .ok (.iload_n 3, 1) := by decide +kernel
theorem dX13_hidden_96 : decode cX13_hidden 96 = .ok (.i2l, 1) := by decide +kernel
theorem dX13_hidden_97 : decode cX13_hidden 97 = .ok (.aload_n 0, 1) := by decide +kernel
theorem dX13_hidden_98 : decode cX13_hidden 98 = .ok (.getfield 39, 3) := by decide +kernel
theorem dX13_hidden_101 : decode cX13_hidden 101 = .ok (.iconst 0, 1) := by decide +kernel
theorem dX13_hidden_102 : decode cX13_hidden 102 = .ok (.aload 4, 2) := by decide +kernel
theorem dX13_hidden_104 : decode cX13_hidden 104 = .ok (.invokevirtual 226, 3) := by decide +kernel
theorem dX13_hidden_107 : decode cX13_hidden 107 = .ok (.ifCond .ne 9, 3) := by decide +kernel
theorem dX13_hidden_110 : decode cX13_hidden 110 = .ok (.aload_n 0, 1) := by decide +kernel
theorem dX13_hidden_111 : decode cX13_hidden 111 = .ok (.iconst 0, 1) := by decide +kernel
theorem dX13_hidden_112 : decode cX13_hidden 112 = .ok (.invokevirtual 86, 3) := by decide +kernel
theorem dX13_hidden_115 : decode cX13_hidden 115 = .ok (.ireturn, 1) := by decide +kernel
theorem dX13_hidden_116 : decode cX13_hidden 116 = .ok (.iconst 0, 1) := by decide +kernel
theorem dX13_hidden_117 : decode cX13_hidden 117 = .ok (.istore 5, 2) := by decide +kernel
theorem dX13_hidden_119 : decode cX13_hidden 119 = .ok (.iload 5, 2) := by decide +kernel
theorem dX13_hidden_121 : decode cX13_hidden 121 = .ok (.aload_n 0, 1) := by decide +kernel
theorem dX13_hidden_122 : decode cX13_hidden 122 = .ok (.getfield 213, 3) := by decide +kernel
theorem dX13_hidden_125 : decode cX13_hidden 125 = .ok (.if_icmp .ge 32, 3) := by decide +kernel
theorem dX13_hidden_128 : decode cX13_hidden 128 = .ok (.aload 4, 2) := by decide +kernel
theorem dX13_hidden_130 : decode cX13_hidden 130 = .ok (.getfield 370, 3) := by decide +kernel
theorem dX13_hidden_133 : decode cX13_hidden 133 = .ok (.aload_n 0, 1) := by decide +kernel
theorem dX13_hidden_134 : decode cX13_hidden 134 = .ok (.getfield 33, 3) := by decide +kernel
theorem dX13_hidden_137 : decode cX13_hidden 137 = .ok (.iload 5, 2) := by decide +kernel
theorem dX13_hidden_139 : decode cX13_hidden 139 = .ok (.iaload, 1) := by decide +kernel
theorem dX13_hidden_140 : decode cX13_hidden 140 = .ok (.dup2, 1) := by decide +kernel
theorem dX13_hidden_141 : decode cX13_hidden 141 = .ok (.laload, 1) := by decide +kernel
theorem dX13_hidden_142 : decode cX13_hidden 142 = .ok (.aload_n 0, 1) := by decide +kernel
theorem dX13_hidden_143 : decode cX13_hidden 143 = .ok (.getfield 39, 3) := by decide +kernel
theorem dX13_hidden_146 : decode cX13_hidden 146 = .ok (.iload 5, 2) := by decide +kernel
theorem dX13_hidden_148 : decode cX13_hidden 148 = .ok (.laload, 1) := by decide +kernel
theorem dX13_hidden_149 : decode cX13_hidden 149 = .ok (.ladd, 1) := by decide +kernel
theorem dX13_hidden_150 : decode cX13_hidden 150 = .ok (.lastore, 1) := by decide +kernel
theorem dX13_hidden_151 : decode cX13_hidden 151 = .ok (.iinc 5 1, 3) := by decide +kernel
theorem dX13_hidden_154 : decode cX13_hidden 154 = .ok (.goto (-35), 3) := by decide +kernel
theorem dX13_hidden_157 : decode cX13_hidden 157 = .ok (.aload_n 0, 1) := by decide +kernel
theorem dX13_hidden_158 : decode cX13_hidden 158 = .ok (.iload_n 3, 1) := by decide +kernel
theorem dX13_hidden_159 : decode cX13_hidden 159 = .ok (.invokevirtual 86, 3) := by decide +kernel
theorem dX13_hidden_162 : decode cX13_hidden 162 = .ok (.ireturn, 1) := by decide +kernel
theorem dX13_bear_0 : decode cX13_bear 0 = .ok (.aload_n 0, 1) := by decide +kernel
theorem dX13_bear_1 : decode cX13_bear 1 = .ok (.iconst 0, 1) := by decide +kernel
theorem dX13_bear_2 : decode cX13_bear 2 = .ok (.putfield 55, 3) := by decide +kernel
theorem dX13_bear_5 : decode cX13_bear 5 = .ok (.aload_n 0, 1) := by decide +kernel
theorem dX13_bear_6 : decode cX13_bear 6 = .ok (.iload_n 1, 1) := by decide +kernel
theorem dX13_bear_7 : decode cX13_bear 7 = .ok (.invokevirtual 64, 3) := by decide +kernel
theorem dX13_bear_10 : decode cX13_bear 10 = .ok (.ifCond .eq 15, 3) := by decide +kernel
theorem dX13_bear_13 : decode cX13_bear 13 = .ok (.aload_n 0, 1) := by decide +kernel
theorem dX13_bear_14 : decode cX13_bear 14 = .ok (.getfield 12, 3) := by decide +kernel
theorem dX13_bear_17 : decode cX13_bear 17 = .ok (.iload_n 1, 1) := by decide +kernel
theorem dX13_bear_18 : decode cX13_bear 18 = .ok (.aaload, 1) := by decide +kernel
theorem dX13_bear_19 : decode cX13_bear 19 = .ok (.getfield 142, 3) := by decide +kernel
theorem dX13_bear_22 : decode cX13_bear 22 = .ok (.ifCond .ne 9, 3) := by decide +kernel
theorem dX13_bear_25 : decode cX13_bear 25 = .ok (.aload_n 0, 1) := by decide +kernel
theorem dX13_bear_26 : decode cX13_bear 26 = .ok (.iconst 1, 1) := by decide +kernel
theorem dX13_bear_27 : decode cX13_bear 27 = .ok (.invokevirtual 73, 3) := by decide +kernel
theorem dX13_bear_30 : decode cX13_bear 30 = .ok (.ireturn, 1) := by decide +kernel
theorem dX13_bear_31 : decode cX13_bear 31 = .ok (.iload_n 3, 1) := by decide +kernel
theorem dX13_bear_32 : decode cX13_bear 32 = .ok (.invokestatic 164, 3) := by decide +kernel
theorem dX13_bear_35 : decode cX13_bear 35 = .ok (.ifCond .ne 9, 3) := by decide +kernel
theorem dX13_bear_38 : decode cX13_bear 38 = .ok (.aload_n 0, 1) := by decide +kernel
theorem dX13_bear_39 : decode cX13_bear 39 = .ok (.iconst 2, 1) := by decide +kernel
theorem dX13_bear_40 : decode cX13_bear 40 = .ok (.invokevirtual 73, 3) := by decide +kernel
theorem dX13_bear_43 : decode cX13_bear 43 = .ok (.ireturn, 1) := by decide +kernel
theorem dX13_bear_44 : decode cX13_bear 44 = .ok (.aload_n 0, 1) := by decide +kernel
theorem dX13_bear_45 : decode cX13_bear 45 = .ok (.getfield 12, 3) := by decide +kernel
theorem dX13_bear_48 : decode cX13_bear 48 = .ok (.iload_n 1, 1) := by decide +kernel
theorem dX13_bear_49 : decode cX13_bear 49 = .ok (.aaload, 1) := by decide +kernel
theorem dX13_bear_50 : decode cX13_bear 50 = .ok (.astore 4, 2) := by decide +kernel
theorem dX13_bear_52 : decode cX13_bear 52 = .ok (.iload_n 2, 1) := by decide +kernel
theorem dX13_bear_53 : decode cX13_bear 53 = .ok (.aload 4, 2) := by decide +kernel
theorem dX13_bear_55 : decode cX13_bear 55 = .ok (.getfield 77, 3) := by decide +kernel
theorem dX13_bear_58 : decode cX13_bear 58 = .ok (.if_icmp .lt 10, 3) := by decide +kernel
theorem dX13_bear_61 : decode cX13_bear 61 = .ok (.iload_n 2, 1) := by decide +kernel
theorem dX13_bear_62 : decode cX13_bear 62 = .ok (.sipush 1000, 3) := by decide +kernel
theorem dX13_bear_65 : decode cX13_bear 65 = .ok (.if_icmp .lt 9, 3) := by decide +kernel
theorem dX13_bear_68 : decode cX13_bear 68 = .ok (.aload_n 0, 1) := by decide +kernel
theorem dX13_bear_69 : decode cX13_bear 69 = .ok (.iconst 3, 1) := by decide +kernel
theorem dX13_bear_70 : decode cX13_bear 70 = .ok (.invokevirtual 73, 3) := by decide +kernel
theorem dX13_bear_73 : decode cX13_bear 73 = .ok (.ireturn, 1) := by decide +kernel
theorem dX13_bear_74 : decode cX13_bear 74 = .ok (.aload_n 0, 1) := by decide +kernel
theorem dX13_bear_75 : decode cX13_bear 75 = .ok (.iconst 0, 1) := by decide +kernel
theorem dX13_bear_76 : decode cX13_bear 76 = .ok (.putfield 213, 3) := by decide +kernel
theorem dX13_bear_79 : decode cX13_bear 79 = .ok (.iconst 0, 1) := by decide +kernel
theorem dX13_bear_80 : decode cX13_bear 80 = .ok (.istore 5, 2) := by decide +kernel
theorem dX13_bear_82 : decode cX13_bear 82 = .ok (.iload 5, 2) := by decide +kernel
theorem dX13_bear_84 : decode cX13_bear 84 = .ok (.aload 4, 2) := by decide +kernel
theorem dX13_bear_86 : decode cX13_bear 86 = .ok (.getfield 68, 3) := by decide +kernel
theorem dX13_bear_89 : decode cX13_bear 89 = .ok (.if_icmp .ge 193, 3) := by decide +kernel
theorem dX13_bear_92 : decode cX13_bear 92 = .ok (.aload 4, 2) := by decide +kernel
theorem dX13_bear_94 : decode cX13_bear 94 = .ok (.iload 5, 2) := by decide +kernel
theorem dX13_bear_96 : decode cX13_bear 96 = .ok (.iload_n 2, 1) := by decide +kernel
theorem dX13_bear_97 : decode cX13_bear 97 = .ok (.invokevirtual 190, 3) := by decide +kernel
theorem dX13_bear_100 : decode cX13_bear 100 = .ok (.ifCond .eq 43, 3) := by decide +kernel
theorem dX13_bear_103 : decode cX13_bear 103 = .ok (.aload 4, 2) := by decide +kernel
theorem dX13_bear_105 : decode cX13_bear 105 = .ok (.getfield 95, 3) := by decide +kernel
theorem dX13_bear_108 : decode cX13_bear 108 = .ok (.iload 5, 2) := by decide +kernel
theorem dX13_bear_110 : decode cX13_bear 110 = .ok (.iaload, 1) := by decide +kernel
theorem dX13_bear_111 : decode cX13_bear 111 = .ok (.iconst (-1), 1) := by decide +kernel
theorem dX13_bear_112 : decode cX13_bear 112 = .ok (.if_icmp .eq 27, 3) := by decide +kernel
theorem dX13_bear_115 : decode cX13_bear 115 = .ok (.aload 4, 2) := by decide +kernel
theorem dX13_bear_117 : decode cX13_bear 117 = .ok (.aload 4, 2) := by decide +kernel
theorem dX13_bear_119 : decode cX13_bear 119 = .ok (.getfield 95, 3) := by decide +kernel
theorem dX13_bear_122 : decode cX13_bear 122 = .ok (.iload 5, 2) := by decide +kernel
theorem dX13_bear_124 : decode cX13_bear 124 = .ok (.iaload, 1) := by decide +kernel
theorem dX13_bear_125 : decode cX13_bear 125 = .ok (.invokestatic 379, 3) := by decide +kernel
theorem dX13_bear_128 : decode cX13_bear 128 = .ok (.aload 4, 2) := by decide +kernel
theorem dX13_bear_130 : decode cX13_bear 130 = .ok (.getfield 118, 3) := by decide +kernel
theorem dX13_bear_133 : decode cX13_bear 133 = .ok (.iload 5, 2) := by decide +kernel
theorem dX13_bear_135 : decode cX13_bear 135 = .ok (.iaload, 1) := by decide +kernel
theorem dX13_bear_136 : decode cX13_bear 136 = .ok (.if_icmp .ge 7, 3) := by decide +kernel
theorem dX13_bear_139 : decode cX13_bear 139 = .ok (.iconst 1, 1) := by decide +kernel
theorem dX13_bear_140 : decode cX13_bear 140 = .ok (.goto 4, 3) := by decide +kernel
theorem dX13_bear_143 : decode cX13_bear 143 = .ok (.iconst 0, 1) := by decide +kernel
theorem dX13_bear_144 : decode cX13_bear 144 = .ok (.istore 6, 2) := by decide +kernel
theorem dX13_bear_146 : decode cX13_bear 146 = .ok (.aload 4, 2) := by decide +kernel
theorem dX13_bear_148 : decode cX13_bear 148 = .ok (.getfield 112, 3) := by decide +kernel
theorem dX13_bear_151 : decode cX13_bear 151 = .ok (.iload 5, 2) := by decide +kernel
theorem dX13_bear_153 : decode cX13_bear 153 = .ok (.iaload, 1) := by decide +kernel
theorem dX13_bear_154 : decode cX13_bear 154 = .ok (.iload_n 2, 1) := by decide +kernel
theorem dX13_bear_155 : decode cX13_bear 155 = .ok (.if_icmp .le 30, 3) := by decide +kernel
theorem dX13_bear_158 : decode cX13_bear 158 = .ok (.aload 4, 2) := by decide +kernel
theorem dX13_bear_160 : decode cX13_bear 160 = .ok (.getfield 124, 3) := by decide +kernel
theorem dX13_bear_163 : decode cX13_bear 163 = .ok (.iload 5, 2) := by decide +kernel
theorem dX13_bear_165 : decode cX13_bear 165 = .ok (.baload, 1) := by decide +kernel
theorem dX13_bear_166 : decode cX13_bear 166 = .ok (.ifCond .eq 19, 3) := by decide +kernel
theorem dX13_bear_169 : decode cX13_bear 169 = .ok (.aload 4, 2) := by decide +kernel
theorem dX13_bear_171 : decode cX13_bear 171 = .ok (.getfield 95, 3) := by decide +kernel
theorem dX13_bear_174 : decode cX13_bear 174 = .ok (.iload 5, 2) := by decide +kernel
theorem dX13_bear_176 : decode cX13_bear 176 = .ok (.iaload, 1) := by decide +kernel
theorem dX13_bear_177 : decode cX13_bear 177 = .ok (.iconst (-1), 1) := by decide +kernel
theorem dX13_bear_178 : decode cX13_bear 178 = .ok (.if_icmp .ne 7, 3) := by decide +kernel
theorem dX13_bear_181 : decode cX13_bear 181 = .ok (.iconst 1, 1) := by decide +kernel
theorem dX13_bear_182 : decode cX13_bear 182 = .ok (.goto 4, 3) := by decide +kernel
theorem dX13_bear_185 : decode cX13_bear 185 = .ok (.iconst 0, 1) := by decide +kernel
theorem dX13_bear_186 : decode cX13_bear 186 = .ok (.istore 7, 2) := by decide +kernel
theorem dX13_bear_188 : decode cX13_bear 188 = .ok (.iload 6, 2) := by decide +kernel
theorem dX13_bear_190 : decode cX13_bear 190 = .ok (.ifCond .ne 11, 3) := by decide +kernel
theorem dX13_bear_193 : decode cX13_bear 193 = .ok (.iload 7, 2) := by decide +kernel
theorem dX13_bear_195 : decode cX13_bear 195 = .ok (.ifCond .ne 6, 3) := by decide +kernel
theorem dX13_bear_198 : decode cX13_bear 198 = .ok (.goto 78, 3) := by decide +kernel
theorem dX13_bear_201 : decode cX13_bear 201 = .ok (.aload_n 0, 1) := by decide +kernel
theorem dX13_bear_202 : decode cX13_bear 202 = .ok (.getfield 33, 3) := by decide +kernel
theorem dX13_bear_205 : decode cX13_bear 205 = .ok (.aload_n 0, 1) := by decide +kernel
theorem dX13_bear_206 : decode cX13_bear 206 = .ok (.getfield 213, 3) := by decide +kernel
theorem dX13_bear_209 : decode cX13_bear 209 = .ok (.iload 5, 2) := by decide +kernel
theorem dX13_bear_211 : decode cX13_bear 211 = .ok (.iastore, 1) := by decide +kernel
theorem dX13_bear_212 : decode cX13_bear 212 = .ok (.aload_n 0, 1) := by decide +kernel
theorem dX13_bear_213 : decode cX13_bear 213 = .ok (.getfield 36, 3) := by decide +kernel
theorem dX13_bear_216 : decode cX13_bear 216 = .ok (.aload_n 0, 1) := by decide +kernel
theorem dX13_bear_217 : decode cX13_bear 217 = .ok (.getfield 213, 3) := by decide +kernel
theorem dX13_bear_220 : decode cX13_bear 220 = .ok (.aload 4, 2) := by decide +kernel
theorem dX13_bear_222 : decode cX13_bear 222 = .ok (.iload 6, 2) := by decide +kernel
theorem dX13_bear_224 : decode cX13_bear 224 = .ok (.ifCond .eq 12, 3) := by decide +kernel
theorem dX13_bear_227 : decode cX13_bear 227 = .ok (.aload 4, 2) := by decide +kernel
theorem dX13_bear_229 : decode cX13_bear 229 = .ok (.iload_n 2, 1) := by decide +kernel
theorem dX13_bear_230 : decode cX13_bear 230 = .ok (.invokevirtual 321, 3) := by decide +kernel
theorem dX13_bear_233 : decode cX13_bear 233 = .ok (.goto 10, 3) := by decide +kernel
theorem dX13_bear_236 : decode cX13_bear 236 = .ok (.aload 4, 2) := by decide +kernel
theorem dX13_bear_238 : decode cX13_bear 238 = .ok (.getfield 142, 3) := by decide +kernel
theorem dX13_bear_241 : decode cX13_bear 241 = .ok (.iconst 1, 1) := by decide +kernel
theorem dX13_bear_242 : decode cX13_bear 242 = .ok (.isub, 1) := by decide +kernel
theorem dX13_bear_243 : decode cX13_bear 243 = .ok (.iconst 3, 1) := by decide +kernel
theorem dX13_bear_244 : decode cX13_bear 244 = .ok (.aload 4, 2) := by decide +kernel
theorem dX13_bear_246 : decode cX13_bear 246 = .ok (.getfield 110, 3) := by decide +kernel
theorem dX13_bear_249 : decode cX13_bear 249 = .ok (.iload 5, 2) := by decide +kernel
theorem dX13_bear_251 : decode cX13_bear 251 = .ok (.iaload, 1) := by decide +kernel
theorem dX13_bear_252 : decode cX13_bear 252 = .ok (.invokevirtual 154, 3) := by decide +kernel
theorem dX13_bear_255 : decode cX13_bear 255 = .ok (.iastore, 1) := by decide +kernel
theorem dX13_bear_256 : decode cX13_bear 256 = .ok (.aload_n 0, 1) := by decide +kernel
theorem dX13_bear_257 : decode cX13_bear 257 = .ok (.getfield 39, 3) := by decide +kernel
theorem dX13_bear_260 : decode cX13_bear 260 = .ok (.aload_n 0, 1) := by decide +kernel
theorem dX13_bear_261 : decode cX13_bear 261 = .ok (.getfield 213, 3) := by decide +kernel
theorem dX13_bear_264 : decode cX13_bear 264 = .ok (.lconst 0, 1) := by decide +kernel
theorem dX13_bear_265 : decode cX13_bear 265 = .ok (.lastore, 1) := by decide +kernel
theorem dX13_bear_266 : decode cX13_bear 266 = .ok (.aload_n 0, 1) := by decide +kernel
theorem dX13_bear_267 : decode cX13_bear 267 = .ok (.dup, 1) := by decide +kernel
theorem dX13_bear_268 : decode cX13_bear 268 = .ok (.getfield 213, 3) := by decide +kernel
theorem dX13_bear_271 : decode cX13_bear 271 = .ok (.iconst 1, 1) := by decide +kernel
theorem dX13_bear_272 : decode cX13_bear 272 = .ok (.iadd, 1) := by decide +kernel
theorem dX13_bear_273 : decode cX13_bear 273 = .ok (.putfield 213, 3) := by decide +kernel
theorem dX13_bear_276 : decode cX13_bear 276 = .ok (.iinc 5 1, 3) := by decide +kernel
theorem dX13_bear_279 : decode cX13_bear 279 = .ok (.goto (-197), 3) := by decide +kernel
theorem dX13_bear_282 : decode cX13_bear 282 = .ok (.aload_n 0, 1) := by decide +kernel
theorem dX13_bear_283 : decode cX13_bear 283 = .ok (.aload 4, 2) := by decide +kernel
theorem dX13_bear_285 : decode cX13_bear 285 = .ok (.iload_n 3, 1) := by decide +kernel
theorem dX13_bear_286 : decode cX13_bear 286 = .ok (.i2l, 1) := by decide +kernel
theorem dX13_bear_287 : decode cX13_bear 287 = .ok (.invokevirtual 354, 3) := by decide +kernel
theorem dX13_bear_290 : decode cX13_bear 290 = .ok (.lstore 5, 2) := by decide +kernel
theorem dX13_bear_292 : decode cX13_bear 292 = .ok (.iconst 0, 1) := by decide +kernel
theorem dX13_bear_293 : decode cX13_bear 293 = .ok (.istore 7, 2) := by decide +kernel
theorem dX13_bear_295 : decode cX13_bear 295 = .ok (.iload 7, 2) := by decide +kernel
theorem dX13_bear_297 : decode cX13_bear 297 = .ok (.bipush 24, 2) := by decide +kernel
theorem dX13_bear_299 : decode cX13_bear 299 = .ok (.if_icmp .ge 17, 3) := by decide +kernel
theorem dX13_bear_302 : decode cX13_bear 302 = .ok (.aload_n 0, 1) := by decide +kernel
theorem dX13_bear_303 : decode cX13_bear 303 = .ok (.getfield 49, 3) := by decide +kernel
theorem dX13_bear_306 : decode cX13_bear 306 = .ok (.iload 7, 2) := by decide +kernel
theorem dX13_bear_308 : decode cX13_bear 308 = .ok (.iconst 0, 1) := by decide +kernel
theorem dX13_bear_309 : decode cX13_bear 309 = .ok (.iastore, 1) := by decide +kernel
theorem dX13_bear_310 : decode cX13_bear 310 = .ok (.iinc 7 1, 3) := by decide +kernel
theorem dX13_bear_313 : decode cX13_bear 313 = .ok (.goto (-18), 3) := by decide +kernel
theorem dX13_bear_316 : decode cX13_bear 316 = .ok (.iconst 0, 1) := by decide +kernel
theorem dX13_bear_317 : decode cX13_bear 317 = .ok (.istore 7, 2) := by decide +kernel
theorem dX13_bear_319 : decode cX13_bear 319 = .ok (.iconst 0, 1) := by decide +kernel
theorem dX13_bear_320 : decode cX13_bear 320 = .ok (.istore 8, 2) := by decide +kernel
theorem dX13_bear_322 : decode cX13_bear 322 = .ok (.iload 8, 2) := by decide +kernel
theorem dX13_bear_324 : decode cX13_bear 324 = .ok (.aload_n 0, 1) := by decide +kernel
theorem dX13_bear_325 : decode cX13_bear 325 = .ok (.getfield 213, 3) := by decide +kernel
theorem dX13_bear_328 : decode cX13_bear 328 = .ok (.if_icmp .ge 51, 3) := by decide +kernel
theorem dX13_bear_331 : decode cX13_bear 331 = .ok (.aload_n 0, 1) := by decide +kernel
theorem dX13_bear_332 : decode cX13_bear 332 = .ok (.getfield 49, 3) := by decide +kernel
theorem dX13_bear_335 : decode cX13_bear 335 = .ok (.aload_n 0, 1) := by decide +kernel
theorem dX13_bear_336 : decode cX13_bear 336 = .ok (.getfield 33, 3) := by decide +kernel
theorem dX13_bear_339 : decode cX13_bear 339 = .ok (.iload 8, 2) := by decide +kernel
theorem dX13_bear_341 : decode cX13_bear 341 = .ok (.iaload, 1) := by decide +kernel
theorem dX13_bear_342 : decode cX13_bear 342 = .ok (.aload_n 0, 1) := by decide +kernel
theorem dX13_bear_343 : decode cX13_bear 343 = .ok (.getfield 39, 3) := by decide +kernel
theorem dX13_bear_346 : decode cX13_bear 346 = .ok (.iload 8, 2) := by decide +kernel
theorem dX13_bear_348 : decode cX13_bear 348 = .ok (.laload, 1) := by decide +kernel
theorem dX13_bear_349 : decode cX13_bear 349 = .ok (.l2i, 1) := by decide +kernel
theorem dX13_bear_350 : decode cX13_bear 350 = .ok (.iastore, 1) := by decide +kernel
theorem dX13_bear_351 : decode cX13_bear 351 = .ok (.iload 7, 2) := by decide +kernel
theorem dX13_bear_353 : decode cX13_bear 353 = .ok (.aload_n 0, 1) := by decide +kernel
theorem dX13_bear_354 : decode cX13_bear 354 = .ok (.getfield 39, 3) := by decide +kernel
theorem dX13_bear_357 : decode cX13_bear 357 = .ok (.iload 8, 2) := by decide +kernel
theorem dX13_bear_359 : decode cX13_bear 359 = .ok (.laload, 1) := by decide +kernel
theorem dX13_bear_360 : decode cX13_bear 360 = .ok (.lconst 0, 1) := by decide +kernel
theorem dX13_bear_361 : decode cX13_bear 361 = .ok (.lcmp, 1) := by decide +kernel
theorem dX13_bear_362 : decode cX13_bear 362 = .ok (.ifCond .le 7, 3) := by decide +kernel
theorem dX13_bear_365 : decode cX13_bear 365 = .ok (.iconst 1, 1) := by decide +kernel
theorem dX13_bear_366 : decode cX13_bear 366 = .ok (.goto 4, 3) := by decide +kernel
theorem dX13_bear_369 : decode cX13_bear 369 = .ok (.iconst 0, 1) := by decide +kernel
theorem dX13_bear_370 : decode cX13_bear 370 = .ok (.iadd, 1) := by decide +kernel
theorem dX13_bear_371 : decode cX13_bear 371 = .ok (.istore 7, 2) := by decide +kernel
theorem dX13_bear_373 : decode cX13_bear 373 = .ok (.iinc 8 1, 3) := by decide +kernel
theorem dX13_bear_376 : decode cX13_bear 376 = .ok (.goto (-54), 3) := by decide +kernel
theorem dX13_bear_379 : decode cX13_bear 379 = .ok (.aload_n 0, 1) := by decide +kernel
theorem dX13_bear_380 : decode cX13_bear 380 = .ok (.lload 5, 2) := by decide +kernel
theorem dX13_bear_382 : decode cX13_bear 382 = .ok (.l2i, 1) := by decide +kernel
theorem dX13_bear_383 : decode cX13_bear 383 = .ok (.putfield 382, 3) := by decide +kernel
theorem dX13_bear_386 : decode cX13_bear 386 = .ok (.aload_n 0, 1) := by decide +kernel
theorem dX13_bear_387 : decode cX13_bear 387 = .ok (.iload 7, 2) := by decide +kernel
theorem dX13_bear_389 : decode cX13_bear 389 = .ok (.invokevirtual 86, 3) := by decide +kernel
theorem dX13_bear_392 : decode cX13_bear 392 = .ok (.ireturn, 1) := by decide +kernel
theorem wd_811 : Cond.methodLink RX13 331 yX13_present ∈ lw_good := mem_t7 68 (by decide +kernel) rfl
theorem wd_812 : Cond.instanceMethod yX13_present ∈ lw_good := mem_t7 70 (by decide +kernel) rfl
theorem wd_813 : Cond.selects RX13 yX13_present yX13_present ∈ lw_good := mem_p 40 (by decide +kernel) rfl
theorem wd_814 : Cond.code yX13_present cX13_present 5 none ∈ lw_good := mem_t7 71 rfl rfl
theorem wd_815 : Cond.methodLink RX13 321 yX12_ruleOn ∈ lw_good := mem_t7 60 (by decide +kernel) rfl
theorem wd_816 : Cond.instanceMethod yX12_ruleOn ∈ lw_good := mem_t7 61 (by decide +kernel) rfl
theorem wd_817 : Cond.selects RX12 yX12_ruleOn yX12_ruleOn ∈ lw_good := mem_t7 62 (by decide +kernel) rfl
theorem wd_818 : Cond.code yX12_ruleOn cX12_ruleOn 3 (some .int) ∈ lw_good := mem_t7 63 rfl rfl
theorem wd_819 : Cond.methodLink RX13 379 yX13_since ∈ lw_good := mem_t7 136 (by decide +kernel) rfl
theorem wd_820 : Cond.static yX13_since ∈ lw_good := mem_t7 137 (by decide +kernel) rfl
theorem wd_821 : Cond.code yX13_since cX13_since 4 (some .int) ∈ lw_good := mem_t7 138 rfl rfl
/-- a House with rules has its first one from its first day on -/
def RLH (cy : Nat → ClassId) (a : Nat) (M : Hp) : Prop := ∀ (fs : List Value) (n first : Nat), M a = .inr (12, fs) → fs[11]? = some (.int (nI n)) → 1 ≤ n → fs[0]? = some (.int (nI first)) → ∃ (r : Nat) (f : Nat → Int32), fs[34]? = some (.ref r) ∧ M r = .inl (cy 14, 16, .inl f) ∧ f 0 ≤ nI first
def RLI (cy : Nat → ClassId) (K : Kp) (L : List Nat) (M : Hp) : Prop := ∀ a, isk K L a 12 0 → RLH cy a M
theorem RLD.of {cy : Nat → ClassId} {K : Kp} {L : List Nat} {M : Hp} {a n first : Nat} {d : Int32} {fs : List Value} (hW : WOM cy K L M) (h : RLI cy K L M) (ha : isk K L a 12 0) (hM : M a = .inr (12, fs)) (h11 : fs[11]? = some (.int (nI n))) (hn : 1 ≤ n) (hn2 : n ≤ 16) (h0 : fs[0]? = some (.int (nI first))) (hd : nI first ≤ d) : RLD cy K L a d M := by
  obtain ⟨r, f, h1, h2, h3⟩ := h a ha fs n first hM h11 hn h0
  obtain ⟨fs', hM', hlen, hfl⟩ := hW.open_12 ha
  have q9 := (Prod.mk.inj (Sum.inr.inj (hM'.symm.trans hM))).2
  rw [q9] at hfl
  obtain ⟨r', hr, hi⟩ : ∃ v : Nat, fs[34]? = some (.ref v : Value) ∧ isk K L v 43 16 := hfl 34 (by decide)
  have e : r' = r := by
    rw [h1] at hr
    exact (Value.ref.inj (Option.some.inj hr)).symm
  rw [e] at hi
  exact ⟨fs, n, r, f, hM, h11, hn, hn2, h1, hi, h2, Int32.le_trans h3 hd⟩
theorem RLI.fr {cy : Nat → ClassId} {K : Kp} {L : List Nat} {M M' : Hp} {ts : List Nat} (hW : WOM cy K L M) (h : RLI cy K L M) (hF : fr K L ts M M') (h1 : 12 ∉ ts) (h2 : 43 ∉ ts) : RLI cy K L M' := fun a ha fs n first hM h11 hn h0 => by
  rw [hF.at ha h1] at hM
  obtain ⟨r, f, h3, h4, h5⟩ := h a ha fs n first hM h11 hn h0
  obtain ⟨fs', hM', hlen, hfl⟩ := hW.open_12 ha
  have q9 := (Prod.mk.inj (Sum.inr.inj (hM'.symm.trans hM))).2
  rw [q9] at hfl
  obtain ⟨r', hr, hi⟩ : ∃ v : Nat, fs[34]? = some (.ref v : Value) ∧ isk K L v 43 16 := hfl 34 (by decide)
  have e : r' = r := by
    rw [h3] at hr
    exact (Value.ref.inj (Option.some.inj hr)).symm
  rw [e] at hi
  exact ⟨r, f, h3, (hF.at hi h2).trans h4, h5⟩
set_option maxHeartbeats 4000000 in
set_option maxRecDepth 100000 in
theorem r_ruleOnP (l : Launch) (D : va_G) (cy : Nat → ClassId) (K : Kp) (L : List Nat) (M : Hp) (sz : Nat) (oa : Nat) (k1 : Int32) (hW : WOM cy K L M) (ia : isk K L oa 12 0) (hRL : RLD cy K L oa k1 M) : Met l yX12_ruleOn (wsM yX12_ruleOn cX12_ruleOn 3 (some .int)) ({ frames := 0, cells := 0, slots := 0, locals := 0 }) (va_Pc [.ref oa, .int k1] (PG D cy [] L M sz)) (va_Qi (fun (r : Int32) (_ : Unit) => (∃ (j : Nat), r = (nI j) ∧ j < 16)) (fun _ t => PQ D [] L M (va_A ([] ++ va_pl L M) sz) t) (va_A ([] ++ va_pl L M) sz)) 0 0 (va_A ([] ++ va_pl L M) sz) := by
  refine Met.ofW (cc := cX12_ruleOn) (maxL := 3) (ret := (some .int)) (by decide) rfl ?_
  intro p e s m args below meth c s₁ B hml hv
  obtain ⟨rfl, hsz, hP, hK, hD0, hN⟩ := hv
  have hx := B.exec
  have hb := B.bytes
  have hr := B.returns
  have hts := atoms_spec (ws := (wsM yX12_ruleOn cX12_ruleOn 3 (some .int))) B.pre
  have hg : ∀ w ∈ lw_good, w.before _ s = true := fun w h => hts w (List.mem_cons_of_mem _ h)
  have hown : s.vm.findClass RX12 = some m.cls := findClass_of_methodNamed B.named
  have hlocks := B.notSynchronized
  subst hsz
  have hD := hD0.self (sz := s.heap.size)
  generalize hAe : va_A ([] ++ va_pl L M) s.heap.size = A at hD ⊢
  have hA : ∀ q : Nat, s.heap.size ≤ q → A q := fun q h => by rw [← hAe]; exact Or.inr h
  have hS : va_S A s.heap s.heap [] := va_S.rf
  have hl := lv_entry ([.ref oa, .int k1]) (n := 3) (Nat.le_of_ble_eq_true rfl)
  rw [lg_entry_eq]
  generalize (lg_sl ([.ref oa, .int k1]) ++ List.replicate (3 - (lg_sl ([.ref oa, .int k1])).length) Slot.unset).toArray = ls at hl ⊢
  refine W.nameQ (fun Q hQ => ?_)
  refine W.nameR (fun R hR => ?_)
  have hRf : 0 ≤ R.frames := by rw [hR]; exact Nat.le_of_ble_eq_true rfl
  have hRl : 0 ≤ R.locals := by rw [hR]; exact Nat.le_of_ble_eq_true rfl
  have hRc : 0 ≤ R.cells := by rw [hR]; exact Nat.le_of_ble_eq_true rfl
  have hRs : 0 ≤ R.slots := by rw [hR]; exact Nat.le_of_ble_eq_true rfl
  have hl : lv_has ls 3 [(0, .ref oa), (1, .int k1)] := hl
  obtain ⟨fs, n11, r34, f34, hMa, hv11, hn1, hn16, hv34, i34, hM34, hf0⟩ := hRL
  obtain ⟨fs', hM', hlen, hfl⟩ := hW.open_12 ia
  have q9 := (Prod.mk.inj (Sum.inr.inj (hM'.symm.trans hMa))).2
  rw [q9] at hlen hfl
  refine lv_aload_n hx hb dX12_ruleOn_0 rfl (lv_at hl 0 rfl) ?_
  refine pg_get (D := D) (ci := 12) (v := .int (nI n11)) (C := RX12) (T := TX12) (N := 51) hx hb hg inG12 hown hK hP ia.1 hMa rfl 11 (by decide) (hg _ wd_707) (fun _ h9 => h9) hv11 dX12_ruleOn_1 ?_
  refine lv_iconst (v := 1) hx hb dX12_ruleOn_4 (by decide) ?_
  refine lv_isub hx hb dX12_ruleOn_5 ?_
  refine lv_topi (fun f_1 ef_1 => ?_)
  obtain rfl : f_1 = (nI (n11 - 1)) := ef_1.trans (nI_prd (by omega))
  refine lv_istore_n (lv' := [(2, .int (nI (n11 - 1))), (0, .ref oa), (1, .int k1)]) hx hb dX12_ruleOn_6 rfl hl (by decide) rfl (fun ls hl => ?_)
  have key_2 : ∀ (fu_4 : Nat) (v2w5 : Nat) (H_7 : Heap) (locs : List Loc) (ls : Array Slot), v2w5 < fu_4 → v2w5 < n11 → WOM cy K L M → va_P D vwCl ([] ++ va_pl L M) H_7 → va_D A ([] ++ va_pl L M) → va_S A s.heap H_7 locs → lv_has ls 3 [(2, .int (nI v2w5)), (0, .ref oa), (1, .int k1)] → W p l e R s m ([.ref oa, .int k1] : List Value).toArray below meth c H_7 locs 0 0 Q (F0 m 7 ls []) := by
    intro fu_4
    induction fu_4 with
    | zero => intro v2w5 H_7 locs ls h; exact absurd h (Nat.not_lt_zero _)
    | succ fu_4 ih_3 =>
      intro v2w5 H_7 locs ls hfu hx_6 hW hP hD hS hl
      refine lv_iload_n hx hb dX12_ruleOn_7 rfl (lv_at hl 0 rfl) ?_
      refine lv_if_lt (tgt := 27) hx hb dX12_ruleOn_8 (by decide) (fun c_8 => absurd c_8 (nI_pos (by omega))) (fun _ => ?_)
      refine lv_aload_n hx hb dX12_ruleOn_11 rfl (lv_at hl 1 rfl) ?_
      refine pg_get (D := D) (ci := 12) (v := .ref r34) (C := RX12) (T := TX12) (N := 51) hx hb hg inG12 hown hK hP ia.1 hMa rfl 34 (by decide) (hg _ wd_708) (fun _ h9 => h9) hv34 dX12_ruleOn_12 ?_
      refine lv_iload_n hx hb dX12_ruleOn_15 rfl (lv_at hl 0 rfl) ?_
      refine pg_iald hx hb hK hP i34.1 0 hM34 rfl (inbN v2w5 16 (by omega) (by omega)) dX12_ruleOn_16 ?_
      refine lv_topi (fun f_9 ef_9 => ?_)
      refine lv_iload_n hx hb dX12_ruleOn_17 rfl (lv_at hl 2 rfl) ?_
      refine lv_icmp_le (tgt := 27) hx hb dX12_ruleOn_18 (by decide) (fun c_10 => ?_) (fun c_10 => ?_)
      · have hz := rfl (a := 0)
        refine lv_iload_n hx hb dX12_ruleOn_27 rfl (lv_at hl 0 rfl) ?_
        rw [hQ]
        exact W.iret (v := (nI v2w5)) hx hb hr (fun t ht hW9 => ⟨⟨(nI v2w5), (), rfl, ⟨v2w5, rfl, (by omega)⟩, ⟨by rw [ht]; exact hP, hD⟩⟩, hS.F ht⟩) hS.2.2 dX12_ruleOn_28
      · have hz := rfl (a := 0)
        rcases Nat.eq_zero_or_pos v2w5 with hz0 | hz1
        · exact absurd (show f_9 ≤ k1 by rw [ef_9, hz0]; exact hf0) c_10
        · refine lv_iinc (v := (nI (v2w5 - 1))) (lv' := [(2, .int (nI (v2w5 - 1))), (0, .ref oa), (1, .int k1)]) hx hb dX12_ruleOn_21 hl (k := 0) rfl (sb_m1 hz1) (by decide) rfl (fun ls hl => ?_)
          refine lv_goto (tgt := 7) hx hb dX12_ruleOn_24 (by decide) ?_
          exact ih_3 (v2w5 - 1) H_7 _ _ (by omega) (by omega) hW hP hD hS (lv_sub hl [0, 1, 2] rfl)
  exact key_2 ((n11 - 1) + 1) (n11 - 1) s.heap _ _ (by omega) (by omega) hW hP hD hS (lv_sub hl [0, 1, 2] rfl)
