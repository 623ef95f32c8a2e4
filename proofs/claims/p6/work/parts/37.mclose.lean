theorem dX13_looses_0 : decode cX13_looses 0 = .ok (.aload_n 1, 1) := by decide +kernel
theorem dX13_looses_1 : decode cX13_looses 1 = .ok (.getfield 179, 3) := by decide +kernel
theorem dX13_looses_4 : decode cX13_looses 4 = .ok (.lconst 0, 1) := by decide +kernel
theorem dX13_looses_5 : decode cX13_looses 5 = .ok (.lcmp, 1) := by decide +kernel
theorem dX13_looses_6 : decode cX13_looses 6 = .ok (.ifCond .ge 11, 3) := by decide +kernel
theorem dX13_looses_9 : decode cX13_looses 9 = .ok (.aload_n 1, 1) := by decide +kernel
theorem dX13_looses_10 : decode cX13_looses 10 = .ok (.getfield 179, 3) := by decide +kernel
theorem dX13_looses_13 : decode cX13_looses 13 = .ok (.lneg, 1) := by decide +kernel
theorem dX13_looses_14 : decode cX13_looses 14 = .ok (.goto 7, 3) := by decide +kernel
theorem dX13_looses_17 : decode cX13_looses 17 = .ok (.aload_n 1, 1) := by decide +kernel
theorem dX13_looses_18 : decode cX13_looses 18 = .ok (.getfield 179, 3) := by decide +kernel
theorem dX13_looses_21 : decode cX13_looses 21 = .ok (.lstore_n 3, 1) := by decide +kernel
theorem dX13_looses_22 : decode cX13_looses 22 = .ok (.lconst 0, 1) := by decide +kernel
theorem dX13_looses_23 : decode cX13_looses 23 = .ok (.lstore 5, 2) := by decide +kernel
theorem dX13_looses_25 : decode cX13_looses 25 = .ok (.iconst 0, 1) := by decide +kernel
theorem dX13_looses_26 : decode cX13_looses 26 = .ok (.istore 7, 2) := by decide +kernel
theorem dX13_looses_28 : decode cX13_looses 28 = .ok (.iload 7, 2) := by decide +kernel
theorem dX13_looses_30 : decode cX13_looses 30 = .ok (.iload_n 2, 1) := by decide +kernel
theorem dX13_looses_31 : decode cX13_looses 31 = .ok (.if_icmp .ge 22, 3) := by decide +kernel
theorem dX13_looses_34 : decode cX13_looses 34 = .ok (.lload 5, 2) := by decide +kernel
theorem dX13_looses_36 : decode cX13_looses 36 = .ok (.aload_n 1, 1) := by decide +kernel
theorem dX13_looses_37 : decode cX13_looses 37 = .ok (.getfield 268, 3) := by decide +kernel
theorem dX13_looses_40 : decode cX13_looses 40 = .ok (.iload 7, 2) := by decide +kernel
theorem dX13_looses_42 : decode cX13_looses 42 = .ok (.iaload, 1) := by decide +kernel
theorem dX13_looses_43 : decode cX13_looses 43 = .ok (.i2l, 1) := by decide +kernel
theorem dX13_looses_44 : decode cX13_looses 44 = .ok (.ladd, 1) := by decide +kernel
theorem dX13_looses_45 : decode cX13_looses 45 = .ok (.lstore 5, 2) := by decide +kernel
theorem dX13_looses_47 : decode cX13_looses 47 = .ok (.iinc 7 1, 3) := by decide +kernel
theorem dX13_looses_50 : decode cX13_looses 50 = .ok (.goto (-22), 3) := by decide +kernel
theorem dX13_looses_53 : decode cX13_looses 53 = .ok (.lload_n 3, 1) := by decide +kernel
theorem dX13_looses_54 : decode cX13_looses 54 = .ok (.lstore 7, 2) := by decide +kernel
theorem dX13_looses_56 : decode cX13_looses 56 = .ok (.iconst 0, 1) := by decide +kernel
theorem dX13_looses_57 : decode cX13_looses 57 = .ok (.istore 9, 2) := by decide +kernel
theorem dX13_looses_59 : decode cX13_looses 59 = .ok (.iload 9, 2) := by decide +kernel
theorem dX13_looses_61 : decode cX13_looses 61 = .ok (.iload_n 2, 1) := by decide +kernel
theorem dX13_looses_62 : decode cX13_looses 62 = .ok (.if_icmp .ge 57, 3) := by decide +kernel
theorem dX13_looses_65 : decode cX13_looses 65 = .ok (.lload_n 3, 1) := by decide +kernel
theorem dX13_looses_66 : decode cX13_looses 66 = .ok (.aload_n 1, 1) := by decide +kernel
theorem dX13_looses_67 : decode cX13_looses 67 = .ok (.getfield 268, 3) := by decide +kernel
theorem dX13_looses_70 : decode cX13_looses 70 = .ok (.iload 9, 2) := by decide +kernel
theorem dX13_looses_72 : decode cX13_looses 72 = .ok (.iaload, 1) := by decide +kernel
theorem dX13_looses_73 : decode cX13_looses 73 = .ok (.i2l, 1) := by decide +kernel
theorem dX13_looses_74 : decode cX13_looses 74 = .ok (.lmul, 1) := by decide +kernel
theorem dX13_looses_75 : decode cX13_looses 75 = .ok (.lstore 10, 2) := by decide +kernel
theorem dX13_looses_77 : decode cX13_looses 77 = .ok (.aload_n 1, 1) := by decide +kernel
theorem dX13_looses_78 : decode cX13_looses 78 = .ok (.getfield 301, 3) := by decide +kernel
theorem dX13_looses_81 : decode cX13_looses 81 = .ok (.iload 9, 2) := by decide +kernel
theorem dX13_looses_83 : decode cX13_looses 83 = .ok (.lload 10, 2) := by decide +kernel
theorem dX13_looses_85 : decode cX13_looses 85 = .ok (.lload 5, 2) := by decide +kernel
theorem dX13_looses_87 : decode cX13_looses 87 = .ok (.ldiv, 1) := by decide +kernel
theorem dX13_looses_88 : decode cX13_looses 88 = .ok (.lastore, 1) := by decide +kernel
theorem dX13_looses_89 : decode cX13_looses 89 = .ok (.aload_n 1, 1) := by decide +kernel
theorem dX13_looses_90 : decode cX13_looses 90 = .ok (.getfield 304, 3) := by decide +kernel
theorem dX13_looses_93 : decode cX13_looses 93 = .ok (.iload 9, 2) := by decide +kernel
theorem dX13_looses_95 : decode cX13_looses 95 = .ok (.lload 10, 2) := by decide +kernel
theorem dX13_looses_97 : decode cX13_looses 97 = .ok (.lload 5, 2) := by decide +kernel
theorem dX13_looses_99 : decode cX13_looses 99 = .ok (.lrem, 1) := by decide +kernel
theorem dX13_looses_100 : decode cX13_looses 100 = .ok (.lastore, 1) := by decide +kernel
theorem dX13_looses_101 : decode cX13_looses 101 = .ok (.lload 7, 2) := by decide +kernel
theorem dX13_looses_103 : decode cX13_looses 103 = .ok (.aload_n 1, 1) := by decide +kernel
theorem dX13_looses_104 : decode cX13_looses 104 = .ok (.getfield 301, 3) := by decide +kernel
theorem dX13_looses_107 : decode cX13_looses 107 = .ok (.iload 9, 2) := by decide +kernel
theorem dX13_looses_109 : decode cX13_looses 109 = .ok (.laload, 1) := by decide +kernel
theorem dX13_looses_110 : decode cX13_looses 110 = .ok (.lsub, 1) := by decide +kernel
theorem dX13_looses_111 : decode cX13_looses 111 = .ok (.lstore 7, 2) := by decide +kernel
theorem dX13_looses_113 : decode cX13_looses 113 = .ok (.iinc 9 1, 3) := by decide +kernel
theorem dX13_looses_116 : decode cX13_looses 116 = .ok (.goto (-57), 3) := by decide +kernel
theorem dX13_looses_119 : decode cX13_looses 119 = .ok (.lload 7, 2) := by decide +kernel
theorem dX13_looses_121 : decode cX13_looses 121 = .ok (.lconst 0, 1) := by decide +kernel
theorem dX13_looses_122 : decode cX13_looses 122 = .ok (.lcmp, 1) := by decide +kernel
theorem dX13_looses_123 : decode cX13_looses 123 = .ok (.ifCond .le 73, 3) := by decide +kernel
theorem dX13_looses_126 : decode cX13_looses 126 = .ok (.iconst 0, 1) := by decide +kernel
theorem dX13_looses_127 : decode cX13_looses 127 = .ok (.istore 9, 2) := by decide +kernel
theorem dX13_looses_129 : decode cX13_looses 129 = .ok (.iconst 1, 1) := by decide +kernel
theorem dX13_looses_130 : decode cX13_looses 130 = .ok (.istore 10, 2) := by decide +kernel
theorem dX13_looses_132 : decode cX13_looses 132 = .ok (.iload 10, 2) := by decide +kernel
theorem dX13_looses_134 : decode cX13_looses 134 = .ok (.iload_n 2, 1) := by decide +kernel
theorem dX13_looses_135 : decode cX13_looses 135 = .ok (.if_icmp .ge 31, 3) := by decide +kernel
theorem dX13_looses_138 : decode cX13_looses 138 = .ok (.aload_n 1, 1) := by decide +kernel
theorem dX13_looses_139 : decode cX13_looses 139 = .ok (.getfield 304, 3) := by decide +kernel
theorem dX13_looses_142 : decode cX13_looses 142 = .ok (.iload 10, 2) := by decide +kernel
theorem dX13_looses_144 : decode cX13_looses 144 = .ok (.laload, 1) := by decide +kernel
theorem dX13_looses_145 : decode cX13_looses 145 = .ok (.aload_n 1, 1) := by decide +kernel
theorem dX13_looses_146 : decode cX13_looses 146 = .ok (.getfield 304, 3) := by decide +kernel
theorem dX13_looses_149 : decode cX13_looses 149 = .ok (.iload 9, 2) := by decide +kernel
theorem dX13_looses_151 : decode cX13_looses 151 = .ok (.laload, 1) := by decide +kernel
theorem dX13_looses_152 : decode cX13_looses 152 = .ok (.lcmp, 1) := by decide +kernel
theorem dX13_looses_153 : decode cX13_looses 153 = .ok (.ifCond .le 7, 3) := by decide +kernel
theorem dX13_looses_156 : decode cX13_looses 156 = .ok (.iload 10, 2) := by decide +kernel
theorem dX13_looses_158 : decode cX13_looses 158 = .ok (.istore 9, 2) := by decide +kernel
theorem dX13_looses_160 : decode cX13_looses 160 = .ok (.iinc 10 1, 3) := by decide +kernel
theorem dX13_looses_163 : decode cX13_looses 163 = .ok (.goto (-31), 3) := by decide +kernel
theorem dX13_looses_166 : decode cX13_looses 166 = .ok (.aload_n 1, 1) := by decide +kernel
theorem dX13_looses_167 : decode cX13_looses 167 = .ok (.getfield 301, 3) := by decide +kernel
theorem dX13_looses_170 : decode cX13_looses 170 = .ok (.iload 9, 2) := by decide +kernel
theorem dX13_looses_172 : decode cX13_looses 172 = .ok (.dup2, 1) := by decide +kernel
theorem dX13_looses_173 : decode cX13_looses 173 = .ok (.laload, 1) := by decide +kernel
theorem dX13_looses_174 : decode cX13_looses 174 = .ok (.lconst 1, 1) := by decide +kernel
theorem dX13_looses_175 : decode cX13_looses 175 = .ok (.ladd, 1) := by decide +kernel
theorem dX13_looses_176 : decode cX13_looses 176 = .ok (.lastore, 1) := by decide +kernel
theorem dX13_looses_177 : decode cX13_looses 177 = .ok (.aload_n 1, 1) := by decide +kernel
theorem dX13_looses_178 : decode cX13_looses 178 = .ok (.getfield 304, 3) := by decide +kernel
theorem dX13_looses_181 : decode cX13_looses 181 = .ok (.iload 9, 2) := by decide +kernel
theorem dX13_looses_183 : decode cX13_looses 183 = .ok (.ldc2_w 220, 3) := by decide +kernel
theorem dX13_looses_186 : decode cX13_looses 186 = .ok (.lastore, 1) := by decide +kernel
theorem dX13_looses_187 : decode cX13_looses 187 = .ok (.lload 7, 2) := by decide +kernel
theorem dX13_looses_189 : decode cX13_looses 189 = .ok (.lconst 1, 1) := by decide +kernel
theorem dX13_looses_190 : decode cX13_looses 190 = .ok (.lsub, 1) := by decide +kernel
theorem dX13_looses_191 : decode cX13_looses 191 = .ok (.lstore 7, 2) := by decide +kernel
theorem dX13_looses_193 : decode cX13_looses 193 = .ok (.goto (-74), 3) := by decide +kernel
theorem dX13_looses_196 : decode cX13_looses 196 = .ok (.iconst 0, 1) := by decide +kernel
theorem dX13_looses_197 : decode cX13_looses 197 = .ok (.istore 9, 2) := by decide +kernel
theorem dX13_looses_199 : decode cX13_looses 199 = .ok (.iload 9, 2) := by decide +kernel
theorem dX13_looses_201 : decode cX13_looses 201 = .ok (.iload_n 2, 1) := by decide +kernel
theorem dX13_looses_202 : decode cX13_looses 202 = .ok (.if_icmp .ge 33, 3) := by decide +kernel
theorem dX13_looses_205 : decode cX13_looses 205 = .ok (.aload_n 1, 1) := by decide +kernel
theorem dX13_looses_206 : decode cX13_looses 206 = .ok (.getfield 179, 3) := by decide +kernel
theorem dX13_looses_209 : decode cX13_looses 209 = .ok (.lconst 0, 1) := by decide +kernel
theorem dX13_looses_210 : decode cX13_looses 210 = .ok (.lcmp, 1) := by decide +kernel
theorem dX13_looses_211 : decode cX13_looses 211 = .ok (.ifCond .ge 18, 3) := by decide +kernel
theorem dX13_looses_214 : decode cX13_looses 214 = .ok (.aload_n 1, 1) := by decide +kernel
theorem dX13_looses_215 : decode cX13_looses 215 = .ok (.getfield 301, 3) := by decide +kernel
theorem dX13_looses_218 : decode cX13_looses 218 = .ok (.iload 9, 2) := by decide +kernel
theorem dX13_looses_220 : decode cX13_looses 220 = .ok (.aload_n 1, 1) := by decide +kernel
theorem dX13_looses_221 : decode cX13_looses 221 = .ok (.getfield 301, 3) := by decide +kernel
theorem dX13_looses_224 : decode cX13_looses 224 = .ok (.iload 9, 2) := by decide +kernel
theorem dX13_looses_226 : decode cX13_looses 226 = .ok (.laload, 1) := by decide +kernel
theorem dX13_looses_227 : decode cX13_looses 227 = .ok (.lneg, 1) := by decide +kernel
theorem dX13_looses_228 : decode cX13_looses 228 = .ok (.lastore, 1) := by decide +kernel
theorem dX13_looses_229 : decode cX13_looses 229 = .ok (.iinc 9 1, 3) := by decide +kernel
theorem dX13_looses_232 : decode cX13_looses 232 = .ok (.goto (-33), 3) := by decide +kernel
theorem dX13_looses_235 : decode cX13_looses 235 = .ok (.return_, 1) := by decide +kernel
theorem dX13_stretch_0 : decode cX13_stretch 0 = .ok (.aload_n 1, 1) := by decide +kernel
theorem dX13_stretch_1 : decode cX13_stretch 1 = .ok (.getfield 265, 3) := by decide +kernel
theorem dX13_stretch_4 : decode cX13_stretch 4 = .ok (.iload_n 2, 1) := by decide +kernel
theorem dX13_stretch_5 : decode cX13_stretch 5 = .ok (.iaload, 1) := by decide +kernel
theorem dX13_stretch_6 : decode cX13_stretch 6 = .ok (.istore 4, 2) := by decide +kernel
theorem dX13_stretch_8 : decode cX13_stretch 8 = .ok (.aload_n 1, 1) := by decide +kernel
theorem dX13_stretch_9 : decode cX13_stretch 9 = .ok (.getfield 268, 3) := by decide +kernel
theorem dX13_stretch_12 : decode cX13_stretch 12 = .ok (.iload_n 2, 1) := by decide +kernel
theorem dX13_stretch_13 : decode cX13_stretch 13 = .ok (.iaload, 1) := by decide +kernel
theorem dX13_stretch_14 : decode cX13_stretch 14 = .ok (.istore 5, 2) := by decide +kernel
theorem dX13_stretch_16 : decode cX13_stretch 16 = .ok (.aload_n 1, 1) := by decide +kernel
theorem dX13_stretch_17 : decode cX13_stretch 17 = .ok (.iload 4, 2) := by decide +kernel
theorem dX13_stretch_19 : decode cX13_stretch 19 = .ok (.invokevirtual 321, 3) := by decide +kernel
theorem dX13_stretch_22 : decode cX13_stretch 22 = .ok (.istore 6, 2) := by decide +kernel
theorem dX13_stretch_24 : decode cX13_stretch 24 = .ok (.iload 4, 2) := by decide +kernel
theorem dX13_stretch_26 : decode cX13_stretch 26 = .ok (.istore 7, 2) := by decide +kernel
theorem dX13_stretch_28 : decode cX13_stretch 28 = .ok (.iload 7, 2) := by decide +kernel
theorem dX13_stretch_30 : decode cX13_stretch 30 = .ok (.iload 4, 2) := by decide +kernel
theorem dX13_stretch_32 : decode cX13_stretch 32 = .ok (.iload 5, 2) := by decide +kernel
theorem dX13_stretch_34 : decode cX13_stretch 34 = .ok (.iadd, 1) := by decide +kernel
theorem dX13_stretch_35 : decode cX13_stretch 35 = .ok (.if_icmp .ge 32, 3) := by decide +kernel
theorem dX13_stretch_38 : decode cX13_stretch 38 = .ok (.aload_n 1, 1) := by decide +kernel
theorem dX13_stretch_39 : decode cX13_stretch 39 = .ok (.getfield 301, 3) := by decide +kernel
theorem dX13_stretch_42 : decode cX13_stretch 42 = .ok (.iload_n 2, 1) := by decide +kernel
theorem dX13_stretch_43 : decode cX13_stretch 43 = .ok (.dup2, 1) := by decide +kernel
theorem dX13_stretch_44 : decode cX13_stretch 44 = .ok (.laload, 1) := by decide +kernel
theorem dX13_stretch_45 : decode cX13_stretch 45 = .ok (.aload_n 1, 1) := by decide +kernel
theorem dX13_stretch_46 : decode cX13_stretch 46 = .ok (.iload 7, 2) := by decide +kernel
theorem dX13_stretch_48 : decode cX13_stretch 48 = .ok (.invokevirtual 324, 3) := by decide +kernel
theorem dX13_stretch_51 : decode cX13_stretch 51 = .ok (.aload_n 1, 1) := by decide +kernel
theorem dX13_stretch_52 : decode cX13_stretch 52 = .ok (.getfield 328, 3) := by decide +kernel
theorem dX13_stretch_55 : decode cX13_stretch 55 = .ok (.iload 7, 2) := by decide +kernel
theorem dX13_stretch_57 : decode cX13_stretch 57 = .ok (.laload, 1) := by decide +kernel
theorem dX13_stretch_58 : decode cX13_stretch 58 = .ok (.ladd, 1) := by decide +kernel
theorem dX13_stretch_59 : decode cX13_stretch 59 = .ok (.ladd, 1) := by decide +kernel
theorem dX13_stretch_60 : decode cX13_stretch 60 = .ok (.lastore, 1) := by decide +kernel
theorem dX13_stretch_61 : decode cX13_stretch 61 = .ok (.iinc 7 1, 3) := by decide +kernel
theorem dX13_stretch_64 : decode cX13_stretch 64 = .ok (.goto (-36), 3) := by decide +kernel
theorem dX13_stretch_67 : decode cX13_stretch 67 = .ok (.aload_n 0, 1) := by decide +kernel
theorem dX13_stretch_68 : decode cX13_stretch 68 = .ok (.aload_n 1, 1) := by decide +kernel
theorem dX13_stretch_69 : decode cX13_stretch 69 = .ok (.iload 4, 2) := by decide +kernel
theorem dX13_stretch_71 : decode cX13_stretch 71 = .ok (.invokevirtual 331, 3) := by decide +kernel
theorem dX13_stretch_74 : decode cX13_stretch 74 = .ok (.aload_n 0, 1) := by decide +kernel
theorem dX13_stretch_75 : decode cX13_stretch 75 = .ok (.aload_n 1, 1) := by decide +kernel
theorem dX13_stretch_76 : decode cX13_stretch 76 = .ok (.iload_n 2, 1) := by decide +kernel
theorem dX13_stretch_77 : decode cX13_stretch 77 = .ok (.invokevirtual 334, 3) := by decide +kernel
theorem dX13_stretch_80 : decode cX13_stretch 80 = .ok (.aload_n 1, 1) := by decide +kernel
theorem dX13_stretch_81 : decode cX13_stretch 81 = .ok (.getfield 301, 3) := by decide +kernel
theorem dX13_stretch_84 : decode cX13_stretch 84 = .ok (.iload_n 2, 1) := by decide +kernel
theorem dX13_stretch_85 : decode cX13_stretch 85 = .ok (.laload, 1) := by decide +kernel
theorem dX13_stretch_86 : decode cX13_stretch 86 = .ok (.lstore 7, 2) := by decide +kernel
theorem dX13_stretch_88 : decode cX13_stretch 88 = .ok (.iconst 0, 1) := by decide +kernel
theorem dX13_stretch_89 : decode cX13_stretch 89 = .ok (.istore 9, 2) := by decide +kernel
theorem dX13_stretch_91 : decode cX13_stretch 91 = .ok (.iload 9, 2) := by decide +kernel
theorem dX13_stretch_93 : decode cX13_stretch 93 = .ok (.aload_n 0, 1) := by decide +kernel
theorem dX13_stretch_94 : decode cX13_stretch 94 = .ok (.getfield 213, 3) := by decide +kernel
theorem dX13_stretch_97 : decode cX13_stretch 97 = .ok (.if_icmp .ge 90, 3) := by decide +kernel
theorem dX13_stretch_100 : decode cX13_stretch 100 = .ok (.aload_n 0, 1) := by decide +kernel
theorem dX13_stretch_101 : decode cX13_stretch 101 = .ok (.getfield 33, 3) := by decide +kernel
theorem dX13_stretch_104 : decode cX13_stretch 104 = .ok (.iload 9, 2) := by decide +kernel
theorem dX13_stretch_106 : decode cX13_stretch 106 = .ok (.iaload, 1) := by decide +kernel
theorem dX13_stretch_107 : decode cX13_stretch 107 = .ok (.istore 10, 2) := by decide +kernel
theorem dX13_stretch_109 : decode cX13_stretch 109 = .ok (.aload_n 1, 1) := by decide +kernel
theorem dX13_stretch_110 : decode cX13_stretch 110 = .ok (.iload 10, 2) := by decide +kernel
theorem dX13_stretch_112 : decode cX13_stretch 112 = .ok (.iload 6, 2) := by decide +kernel
theorem dX13_stretch_114 : decode cX13_stretch 114 = .ok (.iload 4, 2) := by decide +kernel
theorem dX13_stretch_116 : decode cX13_stretch 116 = .ok (.iload 5, 2) := by decide +kernel
theorem dX13_stretch_118 : decode cX13_stretch 118 = .ok (.iload_n 3, 1) := by decide +kernel
theorem dX13_stretch_119 : decode cX13_stretch 119 = .ok (.invokestatic 337, 3) := by decide +kernel
theorem dX13_stretch_122 : decode cX13_stretch 122 = .ok (.lstore 11, 2) := by decide +kernel
theorem dX13_stretch_124 : decode cX13_stretch 124 = .ok (.aload_n 0, 1) := by decide +kernel
theorem dX13_stretch_125 : decode cX13_stretch 125 = .ok (.getfield 20, 3) := by decide +kernel
theorem dX13_stretch_128 : decode cX13_stretch 128 = .ok (.aload_n 1, 1) := by decide +kernel
theorem dX13_stretch_129 : decode cX13_stretch 129 = .ok (.getfield 72, 3) := by decide +kernel
theorem dX13_stretch_132 : decode cX13_stretch 132 = .ok (.iload 10, 2) := by decide +kernel
theorem dX13_stretch_134 : decode cX13_stretch 134 = .ok (.iaload, 1) := by decide +kernel
theorem dX13_stretch_135 : decode cX13_stretch 135 = .ok (.iaload, 1) := by decide +kernel
theorem dX13_stretch_136 : decode cX13_stretch 136 = .ok (.iconst 3, 1) := by decide +kernel
theorem dX13_stretch_137 : decode cX13_stretch 137 = .ok (.if_icmp .ne 27, 3) := by decide +kernel
theorem dX13_stretch_140 : decode cX13_stretch 140 = .ok (.lload 11, 2) := by decide +kernel
theorem dX13_stretch_142 : decode cX13_stretch 142 = .ok (.aload_n 1, 1) := by decide +kernel
theorem dX13_stretch_143 : decode cX13_stretch 143 = .ok (.iload 6, 2) := by decide +kernel
theorem dX13_stretch_145 : decode cX13_stretch 145 = .ok (.iconst 0, 1) := by decide +kernel
theorem dX13_stretch_146 : decode cX13_stretch 146 = .ok (.aload_n 1, 1) := by decide +kernel
theorem dX13_stretch_147 : decode cX13_stretch 147 = .ok (.getfield 110, 3) := by decide +kernel
theorem dX13_stretch_150 : decode cX13_stretch 150 = .ok (.iload 10, 2) := by decide +kernel
theorem dX13_stretch_152 : decode cX13_stretch 152 = .ok (.iaload, 1) := by decide +kernel
theorem dX13_stretch_153 : decode cX13_stretch 153 = .ok (.invokevirtual 154, 3) := by decide +kernel
theorem dX13_stretch_156 : decode cX13_stretch 156 = .ok (.i2l, 1) := by decide +kernel
theorem dX13_stretch_157 : decode cX13_stretch 157 = .ok (.iload 5, 2) := by decide +kernel
theorem dX13_stretch_159 : decode cX13_stretch 159 = .ok (.i2l, 1) := by decide +kernel
theorem dX13_stretch_160 : decode cX13_stretch 160 = .ok (.lmul, 1) := by decide +kernel
theorem dX13_stretch_161 : decode cX13_stretch 161 = .ok (.ladd, 1) := by decide +kernel
theorem dX13_stretch_162 : decode cX13_stretch 162 = .ok (.lstore 11, 2) := by decide +kernel
theorem dX13_stretch_164 : decode cX13_stretch 164 = .ok (.aload_n 0, 1) := by decide +kernel
theorem dX13_stretch_165 : decode cX13_stretch 165 = .ok (.aload_n 1, 1) := by decide +kernel
theorem dX13_stretch_166 : decode cX13_stretch 166 = .ok (.iload_n 2, 1) := by decide +kernel
theorem dX13_stretch_167 : decode cX13_stretch 167 = .ok (.iload 10, 2) := by decide +kernel
theorem dX13_stretch_169 : decode cX13_stretch 169 = .ok (.lload 11, 2) := by decide +kernel
theorem dX13_stretch_171 : decode cX13_stretch 171 = .ok (.invokevirtual 341, 3) := by decide +kernel
theorem dX13_stretch_174 : decode cX13_stretch 174 = .ok (.lload 7, 2) := by decide +kernel
theorem dX13_stretch_176 : decode cX13_stretch 176 = .ok (.lload 11, 2) := by decide +kernel
theorem dX13_stretch_178 : decode cX13_stretch 178 = .ok (.lsub, 1) := by decide +kernel
theorem dX13_stretch_179 : decode cX13_stretch 179 = .ok (.lstore 7, 2) := by decide +kernel
theorem dX13_stretch_181 : decode cX13_stretch 181 = .ok (.iinc 9 1, 3) := by decide +kernel
theorem dX13_stretch_184 : decode cX13_stretch 184 = .ok (.goto (-93), 3) := by decide +kernel
theorem dX13_stretch_187 : decode cX13_stretch 187 = .ok (.iconst 0, 1) := by decide +kernel
theorem dX13_stretch_188 : decode cX13_stretch 188 = .ok (.istore 9, 2) := by decide +kernel
theorem dX13_stretch_190 : decode cX13_stretch 190 = .ok (.iload 9, 2) := by decide +kernel
theorem dX13_stretch_192 : decode cX13_stretch 192 = .ok (.aload_n 0, 1) := by decide +kernel
theorem dX13_stretch_193 : decode cX13_stretch 193 = .ok (.getfield 213, 3) := by decide +kernel
theorem dX13_stretch_196 : decode cX13_stretch 196 = .ok (.if_icmp .ge 65, 3) := by decide +kernel
theorem dX13_stretch_199 : decode cX13_stretch 199 = .ok (.lload 7, 2) := by decide +kernel
theorem dX13_stretch_201 : decode cX13_stretch 201 = .ok (.lconst 0, 1) := by decide +kernel
theorem dX13_stretch_202 : decode cX13_stretch 202 = .ok (.lcmp, 1) := by decide +kernel
theorem dX13_stretch_203 : decode cX13_stretch 203 = .ok (.ifCond .le 58, 3) := by decide +kernel
theorem dX13_stretch_206 : decode cX13_stretch 206 = .ok (.lload 7, 2) := by decide +kernel
theorem dX13_stretch_208 : decode cX13_stretch 208 = .ok (.aload_n 1, 1) := by decide +kernel
theorem dX13_stretch_209 : decode cX13_stretch 209 = .ok (.iload 6, 2) := by decide +kernel
theorem dX13_stretch_211 : decode cX13_stretch 211 = .ok (.iconst 1, 1) := by decide +kernel
theorem dX13_stretch_212 : decode cX13_stretch 212 = .ok (.aload_n 1, 1) := by decide +kernel
theorem dX13_stretch_213 : decode cX13_stretch 213 = .ok (.getfield 110, 3) := by decide +kernel
theorem dX13_stretch_216 : decode cX13_stretch 216 = .ok (.aload_n 0, 1) := by decide +kernel
theorem dX13_stretch_217 : decode cX13_stretch 217 = .ok (.getfield 33, 3) := by decide +kernel
theorem dX13_stretch_220 : decode cX13_stretch 220 = .ok (.iload 9, 2) := by decide +kernel
theorem dX13_stretch_222 : decode cX13_stretch 222 = .ok (.iaload, 1) := by decide +kernel
theorem dX13_stretch_223 : decode cX13_stretch 223 = .ok (.iaload, 1) := by decide +kernel
theorem dX13_stretch_224 : decode cX13_stretch 224 = .ok (.invokevirtual 154, 3) := by decide +kernel
theorem dX13_stretch_227 : decode cX13_stretch 227 = .ok (.i2l, 1) := by decide +kernel
theorem dX13_stretch_228 : decode cX13_stretch 228 = .ok (.invokestatic 345, 3) := by decide +kernel
theorem dX13_stretch_231 : decode cX13_stretch 231 = .ok (.lstore 10, 2) := by decide +kernel
theorem dX13_stretch_233 : decode cX13_stretch 233 = .ok (.aload_n 0, 1) := by decide +kernel
theorem dX13_stretch_234 : decode cX13_stretch 234 = .ok (.aload_n 1, 1) := by decide +kernel
theorem dX13_stretch_235 : decode cX13_stretch 235 = .ok (.iload_n 2, 1) := by decide +kernel
theorem dX13_stretch_236 : decode cX13_stretch 236 = .ok (.aload_n 0, 1) := by decide +kernel
theorem dX13_stretch_237 : decode cX13_stretch 237 = .ok (.getfield 33, 3) := by decide +kernel
theorem dX13_stretch_240 : decode cX13_stretch 240 = .ok (.iload 9, 2) := by decide +kernel
theorem dX13_stretch_242 : decode cX13_stretch 242 = .ok (.iaload, 1) := by decide +kernel
theorem dX13_stretch_243 : decode cX13_stretch 243 = .ok (.lload 10, 2) := by decide +kernel
theorem dX13_stretch_245 : decode cX13_stretch 245 = .ok (.invokevirtual 341, 3) := by decide +kernel
theorem dX13_stretch_248 : decode cX13_stretch 248 = .ok (.lload 7, 2) := by decide +kernel
theorem dX13_stretch_250 : decode cX13_stretch 250 = .ok (.lload 10, 2) := by decide +kernel
theorem dX13_stretch_252 : decode cX13_stretch 252 = .ok (.lsub, 1) := by decide +kernel
theorem dX13_stretch_253 : decode cX13_stretch 253 = .ok (.lstore 7, 2) := by decide +kernel
theorem dX13_stretch_255 : decode cX13_stretch 255 = .ok (.iinc 9 1, 3) := by decide +kernel
theorem dX13_stretch_258 : decode cX13_stretch 258 = .ok (.goto (-68), 3) := by decide +kernel
theorem dX13_stretch_261 : decode cX13_stretch 261 = .ok (.aload_n 0, 1) := by decide +kernel
theorem dX13_stretch_262 : decode cX13_stretch 262 = .ok (.aload_n 1, 1) := by decide +kernel
theorem dX13_stretch_263 : decode cX13_stretch 263 = .ok (.iload_n 2, 1) := by decide +kernel
theorem dX13_stretch_264 : decode cX13_stretch 264 = .ok (.iload 6, 2) := by decide +kernel
theorem dX13_stretch_266 : decode cX13_stretch 266 = .ok (.lload 7, 2) := by decide +kernel
theorem dX13_stretch_268 : decode cX13_stretch 268 = .ok (.invokevirtual 348, 3) := by decide +kernel
theorem dX13_stretch_271 : decode cX13_stretch 271 = .ok (.return_, 1) := by decide +kernel
theorem dX13_mended_0 : decode cX13_mended 0 = .ok (.aload_n 1, 1) := by decide +kernel
theorem dX13_mended_1 : decode cX13_mended 1 = .ok (.getfield 256, 3) := by decide +kernel
theorem dX13_mended_4 : decode cX13_mended 4 = .ok (.istore_n 3, 1) := by decide +kernel
theorem dX13_mended_5 : decode cX13_mended 5 = .ok (.aload_n 1, 1) := by decide +kernel
theorem dX13_mended_6 : decode cX13_mended 6 = .ok (.dup, 1) := by decide +kernel
theorem dX13_mended_7 : decode cX13_mended 7 = .ok (.getfield 256, 3) := by decide +kernel
theorem dX13_mended_10 : decode cX13_mended 10 = .ok (.iconst 1, 1) := by decide +kernel
theorem dX13_mended_11 : decode cX13_mended 11 = .ok (.iadd, 1) := by decide +kernel
theorem dX13_mended_12 : decode cX13_mended 12 = .ok (.putfield 256, 3) := by decide +kernel
theorem dX13_mended_15 : decode cX13_mended 15 = .ok (.aload_n 1, 1) := by decide +kernel
theorem dX13_mended_16 : decode cX13_mended 16 = .ok (.getfield 265, 3) := by decide +kernel
theorem dX13_mended_19 : decode cX13_mended 19 = .ok (.iload_n 3, 1) := by decide +kernel
theorem dX13_mended_20 : decode cX13_mended 20 = .ok (.aload_n 1, 1) := by decide +kernel
theorem dX13_mended_21 : decode cX13_mended 21 = .ok (.getfield 358, 3) := by decide +kernel
theorem dX13_mended_24 : decode cX13_mended 24 = .ok (.iload_n 2, 1) := by decide +kernel
theorem dX13_mended_25 : decode cX13_mended 25 = .ok (.iaload, 1) := by decide +kernel
theorem dX13_mended_26 : decode cX13_mended 26 = .ok (.iastore, 1) := by decide +kernel
theorem dX13_mended_27 : decode cX13_mended 27 = .ok (.aload_n 1, 1) := by decide +kernel
theorem dX13_mended_28 : decode cX13_mended 28 = .ok (.getfield 268, 3) := by decide +kernel
theorem dX13_mended_31 : decode cX13_mended 31 = .ok (.iload_n 3, 1) := by decide +kernel
theorem dX13_mended_32 : decode cX13_mended 32 = .ok (.iconst 0, 1) := by decide +kernel
theorem dX13_mended_33 : decode cX13_mended 33 = .ok (.iastore, 1) := by decide +kernel
theorem dX13_mended_34 : decode cX13_mended 34 = .ok (.aload_n 1, 1) := by decide +kernel
theorem dX13_mended_35 : decode cX13_mended 35 = .ok (.getfield 301, 3) := by decide +kernel
theorem dX13_mended_38 : decode cX13_mended 38 = .ok (.iload_n 3, 1) := by decide +kernel
theorem dX13_mended_39 : decode cX13_mended 39 = .ok (.aload_n 1, 1) := by decide +kernel
theorem dX13_mended_40 : decode cX13_mended 40 = .ok (.getfield 361, 3) := by decide +kernel
theorem dX13_mended_43 : decode cX13_mended 43 = .ok (.iload_n 2, 1) := by decide +kernel
theorem dX13_mended_44 : decode cX13_mended 44 = .ok (.iaload, 1) := by decide +kernel
theorem dX13_mended_45 : decode cX13_mended 45 = .ok (.i2l, 1) := by decide +kernel
theorem dX13_mended_46 : decode cX13_mended 46 = .ok (.lastore, 1) := by decide +kernel
theorem dX13_mended_47 : decode cX13_mended 47 = .ok (.aload_n 0, 1) := by decide +kernel
theorem dX13_mended_48 : decode cX13_mended 48 = .ok (.aload_n 1, 1) := by decide +kernel
theorem dX13_mended_49 : decode cX13_mended 49 = .ok (.aload_n 1, 1) := by decide +kernel
theorem dX13_mended_50 : decode cX13_mended 50 = .ok (.getfield 358, 3) := by decide +kernel
theorem dX13_mended_53 : decode cX13_mended 53 = .ok (.iload_n 2, 1) := by decide +kernel
theorem dX13_mended_54 : decode cX13_mended 54 = .ok (.iaload, 1) := by decide +kernel
theorem dX13_mended_55 : decode cX13_mended 55 = .ok (.invokevirtual 331, 3) := by decide +kernel
theorem dX13_mended_58 : decode cX13_mended 58 = .ok (.aload_n 0, 1) := by decide +kernel
theorem dX13_mended_59 : decode cX13_mended 59 = .ok (.aload_n 1, 1) := by decide +kernel
theorem dX13_mended_60 : decode cX13_mended 60 = .ok (.iload_n 3, 1) := by decide +kernel
theorem dX13_mended_61 : decode cX13_mended 61 = .ok (.invokevirtual 334, 3) := by decide +kernel
theorem dX13_mended_64 : decode cX13_mended 64 = .ok (.aload_n 0, 1) := by decide +kernel
theorem dX13_mended_65 : decode cX13_mended 65 = .ok (.aload_n 1, 1) := by decide +kernel
theorem dX13_mended_66 : decode cX13_mended 66 = .ok (.iload_n 3, 1) := by decide +kernel
theorem dX13_mended_67 : decode cX13_mended 67 = .ok (.aload_n 1, 1) := by decide +kernel
theorem dX13_mended_68 : decode cX13_mended 68 = .ok (.aload_n 1, 1) := by decide +kernel
theorem dX13_mended_69 : decode cX13_mended 69 = .ok (.getfield 358, 3) := by decide +kernel
theorem dX13_mended_72 : decode cX13_mended 72 = .ok (.iload_n 2, 1) := by decide +kernel
theorem dX13_mended_73 : decode cX13_mended 73 = .ok (.iaload, 1) := by decide +kernel
theorem dX13_mended_74 : decode cX13_mended 74 = .ok (.invokevirtual 321, 3) := by decide +kernel
theorem dX13_mended_77 : decode cX13_mended 77 = .ok (.aload_n 1, 1) := by decide +kernel
theorem dX13_mended_78 : decode cX13_mended 78 = .ok (.getfield 361, 3) := by decide +kernel
theorem dX13_mended_81 : decode cX13_mended 81 = .ok (.iload_n 2, 1) := by decide +kernel
theorem dX13_mended_82 : decode cX13_mended 82 = .ok (.iaload, 1) := by decide +kernel
theorem dX13_mended_83 : decode cX13_mended 83 = .ok (.i2l, 1) := by decide +kernel
theorem dX13_mended_84 : decode cX13_mended 84 = .ok (.invokevirtual 348, 3) := by decide +kernel
theorem dX13_mended_87 : decode cX13_mended 87 = .ok (.return_, 1) := by decide +kernel
theorem dX13_incomes_0 : decode cX13_incomes 0 = .ok (.iconst 0, 1) := by decide +kernel
theorem dX13_incomes_1 : decode cX13_incomes 1 = .ok (.istore_n 3, 1) := by decide +kernel
theorem dX13_incomes_2 : decode cX13_incomes 2 = .ok (.iload_n 3, 1) := by decide +kernel
theorem dX13_incomes_3 : decode cX13_incomes 3 = .ok (.aload_n 1, 1) := by decide +kernel
theorem dX13_incomes_4 : decode cX13_incomes 4 = .ok (.getfield 68, 3) := by decide +kernel
theorem dX13_incomes_7 : decode cX13_incomes 7 = .ok (.if_icmp .ge 102, 3) := by decide +kernel
theorem dX13_incomes_10 : decode cX13_incomes 10 = .ok (.aload_n 0, 1) := by decide +kernel
theorem dX13_incomes_11 : decode cX13_incomes 11 = .ok (.getfield 20, 3) := by decide +kernel
theorem dX13_incomes_14 : decode cX13_incomes 14 = .ok (.aload_n 1, 1) := by decide +kernel
theorem dX13_incomes_15 : decode cX13_incomes 15 = .ok (.getfield 72, 3) := by decide +kernel
theorem dX13_incomes_18 : decode cX13_incomes 18 = .ok (.iload_n 3, 1) := by decide +kernel
theorem dX13_incomes_19 : decode cX13_incomes 19 = .ok (.iaload, 1) := by decide +kernel
theorem dX13_incomes_20 : decode cX13_incomes 20 = .ok (.iaload, 1) := by decide +kernel
theorem dX13_incomes_21 : decode cX13_incomes 21 = .ok (.iconst 5, 1) := by decide +kernel
theorem dX13_incomes_22 : decode cX13_incomes 22 = .ok (.if_icmp .eq 6, 3) := by decide +kernel
theorem dX13_incomes_25 : decode cX13_incomes 25 = .ok (.goto 78, 3) := by decide +kernel
theorem dX13_incomes_28 : decode cX13_incomes 28 = .ok (.aload_n 0, 1) := by decide +kernel
theorem dX13_incomes_29 : decode cX13_incomes 29 = .ok (.getfield 12, 3) := by decide +kernel
theorem dX13_incomes_32 : decode cX13_incomes 32 = .ok (.aload_n 0, 1) := by decide +kernel
theorem dX13_incomes_33 : decode cX13_incomes 33 = .ok (.getfield 24, 3) := by decide +kernel
theorem dX13_incomes_36 : decode cX13_incomes 36 = .ok (.aload_n 1, 1) := by decide +kernel
theorem dX13_incomes_37 : decode cX13_incomes 37 = .ok (.getfield 72, 3) := by decide +kernel
theorem dX13_incomes_40 : decode cX13_incomes 40 = .ok (.iload_n 3, 1) := by decide +kernel
theorem dX13_incomes_41 : decode cX13_incomes 41 = .ok (.iaload, 1) := by decide +kernel
theorem dX13_incomes_42 : decode cX13_incomes 42 = .ok (.iaload, 1) := by decide +kernel
theorem dX13_incomes_43 : decode cX13_incomes 43 = .ok (.aaload, 1) := by decide +kernel
theorem dX13_incomes_44 : decode cX13_incomes 44 = .ok (.astore 4, 2) := by decide +kernel
theorem dX13_incomes_46 : decode cX13_incomes 46 = .ok (.iload_n 2, 1) := by decide +kernel
theorem dX13_incomes_47 : decode cX13_incomes 47 = .ok (.aload 4, 2) := by decide +kernel
theorem dX13_incomes_49 : decode cX13_incomes 49 = .ok (.getfield 80, 3) := by decide +kernel
theorem dX13_incomes_52 : decode cX13_incomes 52 = .ok (.iconst 1, 1) := by decide +kernel
theorem dX13_incomes_53 : decode cX13_incomes 53 = .ok (.iadd, 1) := by decide +kernel
theorem dX13_incomes_54 : decode cX13_incomes 54 = .ok (.invokestatic 367, 3) := by decide +kernel
theorem dX13_incomes_57 : decode cX13_incomes 57 = .ok (.istore 5, 2) := by decide +kernel
theorem dX13_incomes_59 : decode cX13_incomes 59 = .ok (.iload 5, 2) := by decide +kernel
theorem dX13_incomes_61 : decode cX13_incomes 61 = .ok (.sipush 1000, 3) := by decide +kernel
theorem dX13_incomes_64 : decode cX13_incomes 64 = .ok (.if_icmp .ge 23, 3) := by decide +kernel
theorem dX13_incomes_67 : decode cX13_incomes 67 = .ok (.aload 4, 2) := by decide +kernel
theorem dX13_incomes_69 : decode cX13_incomes 69 = .ok (.getfield 328, 3) := by decide +kernel
theorem dX13_incomes_72 : decode cX13_incomes 72 = .ok (.iload 5, 2) := by decide +kernel
theorem dX13_incomes_74 : decode cX13_incomes 74 = .ok (.dup2, 1) := by decide +kernel
theorem dX13_incomes_75 : decode cX13_incomes 75 = .ok (.laload, 1) := by decide +kernel
theorem dX13_incomes_76 : decode cX13_incomes 76 = .ok (.aload_n 1, 1) := by decide +kernel
theorem dX13_incomes_77 : decode cX13_incomes 77 = .ok (.getfield 259, 3) := by decide +kernel
theorem dX13_incomes_80 : decode cX13_incomes 80 = .ok (.iload_n 3, 1) := by decide +kernel
theorem dX13_incomes_81 : decode cX13_incomes 81 = .ok (.laload, 1) := by decide +kernel
theorem dX13_incomes_82 : decode cX13_incomes 82 = .ok (.ladd, 1) := by decide +kernel
theorem dX13_incomes_83 : decode cX13_incomes 83 = .ok (.lastore, 1) := by decide +kernel
theorem dX13_incomes_84 : decode cX13_incomes 84 = .ok (.goto 19, 3) := by decide +kernel
theorem dX13_incomes_87 : decode cX13_incomes 87 = .ok (.aload 4, 2) := by decide +kernel
theorem dX13_incomes_89 : decode cX13_incomes 89 = .ok (.dup, 1) := by decide +kernel
theorem dX13_incomes_90 : decode cX13_incomes 90 = .ok (.getfield 179, 3) := by decide +kernel
theorem dX13_incomes_93 : decode cX13_incomes 93 = .ok (.aload_n 1, 1) := by decide +kernel
theorem dX13_incomes_94 : decode cX13_incomes 94 = .ok (.getfield 259, 3) := by decide +kernel
theorem dX13_incomes_97 : decode cX13_incomes 97 = .ok (.iload_n 3, 1) := by decide +kernel
theorem dX13_incomes_98 : decode cX13_incomes 98 = .ok (.laload, 1) := by decide +kernel
theorem dX13_incomes_99 : decode cX13_incomes 99 = .ok (.ladd, 1) := by decide +kernel
theorem dX13_incomes_100 : decode cX13_incomes 100 = .ok (.putfield 179, 3) := by decide +kernel
theorem dX13_incomes_103 : decode cX13_incomes 103 = .ok (.iinc 3 1, 3) := by decide +kernel
theorem dX13_incomes_106 : decode cX13_incomes 106 = .ok (.goto (-104), 3) := by decide +kernel
theorem dX13_incomes_109 : decode cX13_incomes 109 = .ok (.return_, 1) := by decide +kernel
theorem dX13_ends_0 : decode cX13_ends 0 = .ok (.iconst 0, 1) := by decide +kernel
theorem dX13_ends_1 : decode cX13_ends 1 = .ok (.istore_n 2, 1) := by decide +kernel
theorem dX13_ends_2 : decode cX13_ends 2 = .ok (.iload_n 2, 1) := by decide +kernel
theorem dX13_ends_3 : decode cX13_ends 3 = .ok (.aload_n 0, 1) := by decide +kernel
theorem dX13_ends_4 : decode cX13_ends 4 = .ok (.getfield 68, 3) := by decide +kernel
theorem dX13_ends_7 : decode cX13_ends 7 = .ok (.if_icmp .ge 211, 3) := by decide +kernel
theorem dX13_ends_10 : decode cX13_ends 10 = .ok (.aload_n 0, 1) := by decide +kernel
theorem dX13_ends_11 : decode cX13_ends 11 = .ok (.getfield 95, 3) := by decide +kernel
theorem dX13_ends_14 : decode cX13_ends 14 = .ok (.iload_n 2, 1) := by decide +kernel
theorem dX13_ends_15 : decode cX13_ends 15 = .ok (.iaload, 1) := by decide +kernel
theorem dX13_ends_16 : decode cX13_ends 16 = .ok (.iconst (-1), 1) := by decide +kernel
theorem dX13_ends_17 : decode cX13_ends 17 = .ok (.if_icmp .eq 195, 3) := by decide +kernel
theorem dX13_ends_20 : decode cX13_ends 20 = .ok (.aload_n 0, 1) := by decide +kernel
theorem dX13_ends_21 : decode cX13_ends 21 = .ok (.getfield 95, 3) := by decide +kernel
theorem dX13_ends_24 : decode cX13_ends 24 = .ok (.iload_n 2, 1) := by decide +kernel
theorem dX13_ends_25 : decode cX13_ends 25 = .ok (.iaload, 1) := by decide +kernel
theorem dX13_ends_26 : decode cX13_ends 26 = .ok (.iload_n 1, 1) := by decide +kernel
theorem dX13_ends_27 : decode cX13_ends 27 = .ok (.iconst 1, 1) := by decide +kernel
theorem dX13_ends_28 : decode cX13_ends 28 = .ok (.iadd, 1) := by decide +kernel
theorem dX13_ends_29 : decode cX13_ends 29 = .ok (.if_icmp .le 6, 3) := by decide +kernel
theorem dX13_ends_32 : decode cX13_ends 32 = .ok (.goto 180, 3) := by decide +kernel
theorem dX13_ends_35 : decode cX13_ends 35 = .ok (.aload_n 0, 1) := by decide +kernel
theorem dX13_ends_36 : decode cX13_ends 36 = .ok (.getfield 121, 3) := by decide +kernel
theorem dX13_ends_39 : decode cX13_ends 39 = .ok (.iload_n 2, 1) := by decide +kernel
theorem dX13_ends_40 : decode cX13_ends 40 = .ok (.iaload, 1) := by decide +kernel
theorem dX13_ends_41 : decode cX13_ends 41 = .ok (.iconst (-1), 1) := by decide +kernel
theorem dX13_ends_42 : decode cX13_ends 42 = .ok (.if_icmp .eq 60, 3) := by decide +kernel
theorem dX13_ends_45 : decode cX13_ends 45 = .ok (.aload_n 0, 1) := by decide +kernel
theorem dX13_ends_46 : decode cX13_ends 46 = .ok (.getfield 307, 3) := by decide +kernel
theorem dX13_ends_49 : decode cX13_ends 49 = .ok (.aload_n 0, 1) := by decide +kernel
theorem dX13_ends_50 : decode cX13_ends 50 = .ok (.getfield 121, 3) := by decide +kernel
theorem dX13_ends_53 : decode cX13_ends 53 = .ok (.iload_n 2, 1) := by decide +kernel
theorem dX13_ends_54 : decode cX13_ends 54 = .ok (.iaload, 1) := by decide +kernel
theorem dX13_ends_55 : decode cX13_ends 55 = .ok (.dup2, 1) := by decide +kernel
theorem dX13_ends_56 : decode cX13_ends 56 = .ok (.laload, 1) := by decide +kernel
theorem dX13_ends_57 : decode cX13_ends 57 = .ok (.aload_n 0, 1) := by decide +kernel
theorem dX13_ends_58 : decode cX13_ends 58 = .ok (.getfield 307, 3) := by decide +kernel
theorem dX13_ends_61 : decode cX13_ends 61 = .ok (.iload_n 2, 1) := by decide +kernel
theorem dX13_ends_62 : decode cX13_ends 62 = .ok (.laload, 1) := by decide +kernel
theorem dX13_ends_63 : decode cX13_ends 63 = .ok (.ladd, 1) := by decide +kernel
theorem dX13_ends_64 : decode cX13_ends 64 = .ok (.lastore, 1) := by decide +kernel
theorem dX13_ends_65 : decode cX13_ends 65 = .ok (.aload_n 0, 1) := by decide +kernel
theorem dX13_ends_66 : decode cX13_ends 66 = .ok (.getfield 370, 3) := by decide +kernel
theorem dX13_ends_69 : decode cX13_ends 69 = .ok (.aload_n 0, 1) := by decide +kernel
theorem dX13_ends_70 : decode cX13_ends 70 = .ok (.getfield 121, 3) := by decide +kernel
theorem dX13_ends_73 : decode cX13_ends 73 = .ok (.iload_n 2, 1) := by decide +kernel
theorem dX13_ends_74 : decode cX13_ends 74 = .ok (.iaload, 1) := by decide +kernel
theorem dX13_ends_75 : decode cX13_ends 75 = .ok (.dup2, 1) := by decide +kernel
theorem dX13_ends_76 : decode cX13_ends 76 = .ok (.laload, 1) := by decide +kernel
theorem dX13_ends_77 : decode cX13_ends 77 = .ok (.aload_n 0, 1) := by decide +kernel
theorem dX13_ends_78 : decode cX13_ends 78 = .ok (.getfield 370, 3) := by decide +kernel
theorem dX13_ends_81 : decode cX13_ends 81 = .ok (.iload_n 2, 1) := by decide +kernel
theorem dX13_ends_82 : decode cX13_ends 82 = .ok (.laload, 1) := by decide +kernel
theorem dX13_ends_83 : decode cX13_ends 83 = .ok (.ladd, 1) := by decide +kernel
theorem dX13_ends_84 : decode cX13_ends 84 = .ok (.lastore, 1) := by decide +kernel
theorem dX13_ends_85 : decode cX13_ends 85 = .ok (.aload_n 0, 1) := by decide +kernel
theorem dX13_ends_86 : decode cX13_ends 86 = .ok (.getfield 307, 3) := by decide +kernel
theorem dX13_ends_89 : decode cX13_ends 89 = .ok (.iload_n 2, 1) := by decide +kernel
theorem dX13_ends_90 : decode cX13_ends 90 = .ok (.lconst 0, 1) := by decide +kernel
theorem dX13_ends_91 : decode cX13_ends 91 = .ok (.lastore, 1) := by decide +kernel
theorem dX13_ends_92 : decode cX13_ends 92 = .ok (.aload_n 0, 1) := by decide +kernel
theorem dX13_ends_93 : decode cX13_ends 93 = .ok (.getfield 370, 3) := by decide +kernel
theorem dX13_ends_96 : decode cX13_ends 96 = .ok (.iload_n 2, 1) := by decide +kernel
theorem dX13_ends_97 : decode cX13_ends 97 = .ok (.lconst 0, 1) := by decide +kernel
theorem dX13_ends_98 : decode cX13_ends 98 = .ok (.lastore, 1) := by decide +kernel
theorem dX13_ends_99 : decode cX13_ends 99 = .ok (.goto 113, 3) := by decide +kernel
theorem dX13_ends_102 : decode cX13_ends 102 = .ok (.aload_n 0, 1) := by decide +kernel
theorem dX13_ends_103 : decode cX13_ends 103 = .ok (.getfield 307, 3) := by decide +kernel
theorem dX13_ends_106 : decode cX13_ends 106 = .ok (.iload_n 2, 1) := by decide +kernel
theorem dX13_ends_107 : decode cX13_ends 107 = .ok (.laload, 1) := by decide +kernel
theorem dX13_ends_108 : decode cX13_ends 108 = .ok (.lconst 0, 1) := by decide +kernel
theorem dX13_ends_109 : decode cX13_ends 109 = .ok (.lcmp, 1) := by decide +kernel
theorem dX13_ends_110 : decode cX13_ends 110 = .ok (.ifCond .le 25, 3) := by decide +kernel
theorem dX13_ends_113 : decode cX13_ends 113 = .ok (.aload_n 0, 1) := by decide +kernel
theorem dX13_ends_114 : decode cX13_ends 114 = .ok (.getfield 373, 3) := by decide +kernel
theorem dX13_ends_117 : decode cX13_ends 117 = .ok (.iload_n 2, 1) := by decide +kernel
theorem dX13_ends_118 : decode cX13_ends 118 = .ok (.dup2, 1) := by decide +kernel
theorem dX13_ends_119 : decode cX13_ends 119 = .ok (.laload, 1) := by decide +kernel
theorem dX13_ends_120 : decode cX13_ends 120 = .ok (.aload_n 0, 1) := by decide +kernel
theorem dX13_ends_121 : decode cX13_ends 121 = .ok (.getfield 307, 3) := by decide +kernel
theorem dX13_ends_124 : decode cX13_ends 124 = .ok (.iload_n 2, 1) := by decide +kernel
theorem dX13_ends_125 : decode cX13_ends 125 = .ok (.laload, 1) := by decide +kernel
theorem dX13_ends_126 : decode cX13_ends 126 = .ok (.ladd, 1) := by decide +kernel
theorem dX13_ends_127 : decode cX13_ends 127 = .ok (.lastore, 1) := by decide +kernel
theorem dX13_ends_128 : decode cX13_ends 128 = .ok (.aload_n 0, 1) := by decide +kernel
theorem dX13_ends_129 : decode cX13_ends 129 = .ok (.getfield 307, 3) := by decide +kernel
theorem dX13_ends_132 : decode cX13_ends 132 = .ok (.iload_n 2, 1) := by decide +kernel
theorem dX13_ends_133 : decode cX13_ends 133 = .ok (.lconst 0, 1) := by decide +kernel
theorem dX13_ends_134 : decode cX13_ends 134 = .ok (.lastore, 1) := by decide +kernel
theorem dX13_ends_135 : decode cX13_ends 135 = .ok (.aload_n 0, 1) := by decide +kernel
theorem dX13_ends_136 : decode cX13_ends 136 = .ok (.getfield 373, 3) := by decide +kernel
theorem dX13_ends_139 : decode cX13_ends 139 = .ok (.iload_n 2, 1) := by decide +kernel
theorem dX13_ends_140 : decode cX13_ends 140 = .ok (.dup2, 1) := by decide +kernel
theorem dX13_ends_141 : decode cX13_ends 141 = .ok (.laload, 1) := by decide +kernel
theorem dX13_ends_142 : decode cX13_ends 142 = .ok (.aload_n 0, 1) := by decide +kernel
theorem dX13_ends_143 : decode cX13_ends 143 = .ok (.getfield 370, 3) := by decide +kernel
theorem dX13_ends_146 : decode cX13_ends 146 = .ok (.iload_n 2, 1) := by decide +kernel
theorem dX13_ends_147 : decode cX13_ends 147 = .ok (.laload, 1) := by decide +kernel
theorem dX13_ends_148 : decode cX13_ends 148 = .ok (.ladd, 1) := by decide +kernel
theorem dX13_ends_149 : decode cX13_ends 149 = .ok (.lastore, 1) := by decide +kernel
theorem dX13_ends_150 : decode cX13_ends 150 = .ok (.aload_n 0, 1) := by decide +kernel
theorem dX13_ends_151 : decode cX13_ends 151 = .ok (.getfield 370, 3) := by decide +kernel
theorem dX13_ends_154 : decode cX13_ends 154 = .ok (.iload_n 2, 1) := by decide +kernel
theorem dX13_ends_155 : decode cX13_ends 155 = .ok (.lconst 0, 1) := by decide +kernel
theorem dX13_ends_156 : decode cX13_ends 156 = .ok (.lastore, 1) := by decide +kernel
theorem dX13_ends_157 : decode cX13_ends 157 = .ok (.aload_n 0, 1) := by decide +kernel
theorem dX13_ends_158 : decode cX13_ends 158 = .ok (.getfield 373, 3) := by decide +kernel
theorem dX13_ends_161 : decode cX13_ends 161 = .ok (.iload_n 2, 1) := by decide +kernel
theorem dX13_ends_162 : decode cX13_ends 162 = .ok (.laload, 1) := by decide +kernel
theorem dX13_ends_163 : decode cX13_ends 163 = .ok (.aload_n 0, 1) := by decide +kernel
theorem dX13_ends_164 : decode cX13_ends 164 = .ok (.getfield 115, 3) := by decide +kernel
theorem dX13_ends_167 : decode cX13_ends 167 = .ok (.iload_n 2, 1) := by decide +kernel
theorem dX13_ends_168 : decode cX13_ends 168 = .ok (.iaload, 1) := by decide +kernel
theorem dX13_ends_169 : decode cX13_ends 169 = .ok (.i2l, 1) := by decide +kernel
theorem dX13_ends_170 : decode cX13_ends 170 = .ok (.ldiv, 1) := by decide +kernel
theorem dX13_ends_171 : decode cX13_ends 171 = .ok (.lstore_n 3, 1) := by decide +kernel
theorem dX13_ends_172 : decode cX13_ends 172 = .ok (.aload_n 0, 1) := by decide +kernel
theorem dX13_ends_173 : decode cX13_ends 173 = .ok (.getfield 376, 3) := by decide +kernel
theorem dX13_ends_176 : decode cX13_ends 176 = .ok (.iload_n 2, 1) := by decide +kernel
theorem dX13_ends_177 : decode cX13_ends 177 = .ok (.dup2, 1) := by decide +kernel
theorem dX13_ends_178 : decode cX13_ends 178 = .ok (.laload, 1) := by decide +kernel
theorem dX13_ends_179 : decode cX13_ends 179 = .ok (.lload_n 3, 1) := by decide +kernel
theorem dX13_ends_180 : decode cX13_ends 180 = .ok (.ladd, 1) := by decide +kernel
theorem dX13_ends_181 : decode cX13_ends 181 = .ok (.lastore, 1) := by decide +kernel
theorem dX13_ends_182 : decode cX13_ends 182 = .ok (.aload_n 0, 1) := by decide +kernel
theorem dX13_ends_183 : decode cX13_ends 183 = .ok (.getfield 373, 3) := by decide +kernel
theorem dX13_ends_186 : decode cX13_ends 186 = .ok (.iload_n 2, 1) := by decide +kernel
theorem dX13_ends_187 : decode cX13_ends 187 = .ok (.dup2, 1) := by decide +kernel
theorem dX13_ends_188 : decode cX13_ends 188 = .ok (.laload, 1) := by decide +kernel
theorem dX13_ends_189 : decode cX13_ends 189 = .ok (.lload_n 3, 1) := by decide +kernel
theorem dX13_ends_190 : decode cX13_ends 190 = .ok (.lsub, 1) := by decide +kernel
theorem dX13_ends_191 : decode cX13_ends 191 = .ok (.lastore, 1) := by decide +kernel
theorem dX13_ends_192 : decode cX13_ends 192 = .ok (.aload_n 0, 1) := by decide +kernel
theorem dX13_ends_193 : decode cX13_ends 193 = .ok (.getfield 115, 3) := by decide +kernel
theorem dX13_ends_196 : decode cX13_ends 196 = .ok (.iload_n 2, 1) := by decide +kernel
theorem dX13_ends_197 : decode cX13_ends 197 = .ok (.iaload, 1) := by decide +kernel
theorem dX13_ends_198 : decode cX13_ends 198 = .ok (.iconst 1, 1) := by decide +kernel
theorem dX13_ends_199 : decode cX13_ends 199 = .ok (.if_icmp .le 13, 3) := by decide +kernel
theorem dX13_ends_202 : decode cX13_ends 202 = .ok (.aload_n 0, 1) := by decide +kernel
theorem dX13_ends_203 : decode cX13_ends 203 = .ok (.getfield 115, 3) := by decide +kernel
theorem dX13_ends_206 : decode cX13_ends 206 = .ok (.iload_n 2, 1) := by decide +kernel
theorem dX13_ends_207 : decode cX13_ends 207 = .ok (.dup2, 1) := by decide +kernel
theorem dX13_ends_208 : decode cX13_ends 208 = .ok (.iaload, 1) := by decide +kernel
theorem dX13_ends_209 : decode cX13_ends 209 = .ok (.iconst 1, 1) := by decide +kernel
theorem dX13_ends_210 : decode cX13_ends 210 = .ok (.isub, 1) := by decide +kernel
theorem dX13_ends_211 : decode cX13_ends 211 = .ok (.iastore, 1) := by decide +kernel
theorem dX13_ends_212 : decode cX13_ends 212 = .ok (.iinc 2 1, 3) := by decide +kernel
theorem dX13_ends_215 : decode cX13_ends 215 = .ok (.goto (-213), 3) := by decide +kernel
theorem dX13_ends_218 : decode cX13_ends 218 = .ok (.return_, 1) := by decide +kernel
theorem wd_840 : Cond.methodLink RX13 367 Lib.Math.max.name ∈ lw_good := mem_t7 120 (by decide +kernel) rfl
theorem wd_841 : Cond.methodLink RX13 334 yX13_clears ∈ lw_good := mem_t7 72 (by decide +kernel) rfl
theorem wd_842 : Cond.instanceMethod yX13_clears ∈ lw_good := mem_t7 74 (by decide +kernel) rfl
theorem wd_843 : Cond.selects RX13 yX13_clears yX13_clears ∈ lw_good := mem_p 41 (by decide +kernel) rfl
theorem wd_844 : Cond.code yX13_clears cX13_clears 4 none ∈ lw_good := mem_t7 75 rfl rfl
theorem wd_845 : Cond.methodLink RX13 348 yX13_shares ∈ lw_good := mem_t7 85 (by decide +kernel) rfl
theorem wd_846 : Cond.instanceMethod yX13_shares ∈ lw_good := mem_t7 87 (by decide +kernel) rfl
theorem wd_847 : Cond.selects RX13 yX13_shares yX13_shares ∈ lw_good := mem_p 43 (by decide +kernel) rfl
theorem wd_848 : Cond.code yX13_shares cX13_shares 7 none ∈ lw_good := mem_t7 88 rfl rfl
theorem wd_849 : Cond.methodLink RX13 345 Lib.MathLoose.min_long.x ∈ lw_good := mem_t7 84 (by decide +kernel) rfl
theorem wd_850 : Cond.methodLink RX13 337 yX13_interest ∈ lw_good := mem_t7 76 (by decide +kernel) rfl
theorem wd_851 : Cond.static yX13_interest ∈ lw_good := mem_t7 77 (by decide +kernel) rfl
theorem wd_852 : Cond.code yX13_interest cX13_interest 12 (some .long) ∈ lw_good := mem_t7 78 rfl rfl
theorem lsum {v f g : Int64} {c i : Nat} (h : (i = 0 ∧ v = 0) ∨ (1 ≤ v.toInt ∧ v.toInt ≤ 1001 * (i : Int))) (ef : f = (nI c).toInt64) (eg : g = v + f) (hc : c < 1001) (h0 : i = 0 → 1 ≤ c) (hi : i ≤ 120) : (i + 1 = 0 ∧ g = 0) ∨ (1 ≤ g.toInt ∧ g.toInt ≤ 1001 * ((i + 1 : Nat) : Int)) := by
  have e1 : f.toInt = (c : Int) := by
    rw [ef, Int32.toInt_toInt64, nI_toInt (by omega)]
  have hv : 0 ≤ v.toInt ∧ v.toInt ≤ 1001 * (i : Int) := by
    rcases h with ⟨h1, h2⟩ | h
    · rw [h2]
      rw [show (0 : Int64).toInt = 0 from rfl]
      omega
    · omega
  have e2 : g.toInt = v.toInt + (c : Int) := by
    rw [eg, Int64.toInt_add, e1]
    apply Int.bmod_eq_of_le <;> omega
  refine Or.inr ⟨?_, ?_⟩
  · rcases h with ⟨h1, h2⟩ | h
    · have := h0 h1
      omega
    · omega
  · omega
theorem lsum_nz {v : Int64} {i : Nat} (h : (i = 0 ∧ v = 0) ∨ (1 ≤ v.toInt ∧ v.toInt ≤ 1001 * (i : Int))) (hi : 1 ≤ i) : ¬ v = 0 := fun e => by
  rcases h with ⟨h1, h2⟩ | h
  · omega
  · rw [e, show (0 : Int64).toInt = 0 from rfl] at h
    omega
theorem nle0 {x : Int32} (h : 1 ≤ x.toInt) : ¬ x ≤ 0 := fun q => by
  have h1 := Int32.le_iff_toInt_le.mp q
  rw [show (0 : Int32).toInt = 0 from rfl] at h1
  omega
theorem rldp {rd f34 : Nat → Int32} {first : Int} {d : Int32} (e : rd = f34) (h : (rd 0).toInt ≤ first) (hd : first ≤ d.toInt) : f34 0 ≤ d := by
  rw [← e]
  exact Int32.le_iff_toInt_le.mpr (Int.le_trans h hd)
theorem max2 {f x y : Int32} {a b : Nat} (e : f = if x < y then y else x) (hx : x = nI a) (hy : y = nI b) (ha : a < 2000) (hb : b < 2000) : ∃ j : Nat, j < 2000 ∧ f = nI j := by
  rw [e]
  split
  · exact ⟨b, hb, hy⟩
  · exact ⟨a, ha, hx⟩
set_option maxHeartbeats 4000000 in
set_option maxRecDepth 100000 in
theorem g_X13_looses (l : Launch) (D : va_G) (cy : Nat → ClassId) (K : Kp) (L : List Nat) (M : Hp) (sz : Nat) (za : Nat) (z0 : Int32) (z1 : Nat) (z2 : Nat) (z3 : Nat) (z4 : Int32) (z5 : Int32) (z6 : Nat) (z7 : Nat) (z8 : Nat) (z9 : Nat) (z10 : Nat) (z11 : Nat) (z12 : Nat) (z13 : Nat) (z14 : Nat) (z15 : Nat) (z16 : Nat) (z17 : Nat) (z18 : Int32) (z19 : Nat) (k1 : Nat) (k2 : Nat) (hW : WOM cy K L M) (i1 : isk K L z1 23 8) (b2 : z2 ≤ 8) (b3 : z3 ≤ 40) (i6 : isk K L z6 47 40) (i7 : isk K L z7 48 40) (i8 : isk K L z8 49 8) (i9 : isk K L z9 50 8) (b10 : z10 ≤ 8) (i11 : isk K L z11 32 24) (i12 : isk K L z12 14 24) (i13 : isk K L z13 97 24) (i14 : isk K L z14 98 24) (i15 : isk K L z15 99 24) (b16 : z16 ≤ 24) (i17 : isk K L z17 14 24) (i19 : isk K L z19 15 25) (ik1 : isk K L k1 12 0) (nk2 : k2 < 121) (hO : OWN K L M) (hn : 1 ≤ k2) (hs : 1 ≤ (ax M k1 45 0).toInt) : Met l yX13_looses (wsM yX13_looses cX13_looses 12 none) ({ frames := 0, cells := 0, slots := 0, locals := 0 }) (va_Pc [.ref za, .ref k1, .int (nI k2)] (PG D cy [(za, (b13_0 z0 z1 (nI z2) (nI z3) z4 z5 z6 z7 z8 z9 (nI z10) z11 z12 z13 z14 z15 (nI z16) z17 z18 z19))] L M sz)) (va_Qv (fun (M9 : Hp) => WOM cy K L M9 ∧ fr K L [15, 93, 94] M M9 ∧ fG K L [] M M9 ∧ (True)) (fun M9 t => PQ D [(za, (b13_0 z0 z1 (nI z2) (nI z3) z4 z5 z6 z7 z8 z9 (nI z10) z11 z12 z13 z14 z15 (nI z16) z17 z18 z19))] L M9 (va_A ([(za, (b13_0 z0 z1 (nI z2) (nI z3) z4 z5 z6 z7 z8 z9 (nI z10) z11 z12 z13 z14 z15 (nI z16) z17 z18 z19))] ++ va_pl L M) sz) t) (va_A ([(za, (b13_0 z0 z1 (nI z2) (nI z3) z4 z5 z6 z7 z8 z9 (nI z10) z11 z12 z13 z14 z15 (nI z16) z17 z18 z19))] ++ va_pl L M) sz)) 0 0 (va_A ([(za, (b13_0 z0 z1 (nI z2) (nI z3) z4 z5 z6 z7 z8 z9 (nI z10) z11 z12 z13 z14 z15 (nI z16) z17 z18 z19))] ++ va_pl L M) sz) := by
  refine Met.ofW (cc := cX13_looses) (maxL := 12) (ret := none) (by decide) rfl ?_
  intro p e s m args below meth c s₁ B hml hv
  obtain ⟨rfl, hsz, hP, hK, hD0, hN⟩ := hv
  have hx := B.exec
  have hb := B.bytes
  have hr := B.returns
  have hts := atoms_spec (ws := (wsM yX13_looses cX13_looses 12 none)) B.pre
  have hg : ∀ w ∈ lw_good, w.before _ s = true := fun w h => hts w (List.mem_cons_of_mem _ h)
  have hown : s.vm.findClass RX13 = some m.cls := findClass_of_methodNamed B.named
  have hlocks := B.notSynchronized
  subst hsz
  have hD := hD0.self (sz := s.heap.size)
  generalize hAe : va_A ([(za, (b13_0 z0 z1 (nI z2) (nI z3) z4 z5 z6 z7 z8 z9 (nI z10) z11 z12 z13 z14 z15 (nI z16) z17 z18 z19))] ++ va_pl L M) s.heap.size = A at hD ⊢
  have hA : ∀ q : Nat, s.heap.size ≤ q → A q := fun q h => by rw [← hAe]; exact Or.inr h
  have hS : va_S A s.heap s.heap [] := va_S.rf
  have hl := lv_entry ([.ref za, .ref k1, .int (nI k2)]) (n := 12) (Nat.le_of_ble_eq_true rfl)
  rw [lg_entry_eq]
  generalize (lg_sl ([.ref za, .ref k1, .int (nI k2)]) ++ List.replicate (12 - (lg_sl ([.ref za, .ref k1, .int (nI k2)])).length) Slot.unset).toArray = ls at hl ⊢
  refine W.nameQ (fun Q hQ => ?_)
  refine W.nameR (fun R hR => ?_)
  have hRf : 0 ≤ R.frames := by rw [hR]; exact Nat.le_of_ble_eq_true rfl
  have hRl : 0 ≤ R.locals := by rw [hR]; exact Nat.le_of_ble_eq_true rfl
  have hRc : 0 ≤ R.cells := by rw [hR]; exact Nat.le_of_ble_eq_true rfl
  have hRs : 0 ≤ R.slots := by rw [hR]; exact Nat.le_of_ble_eq_true rfl
  have hF : fr K L [15, 93, 94] M M := fr.rf
  have hG : fG K L [] M M := fG.rf
  have hl : lv_has ls 12 [(0, .ref za), (1, .ref k1), (2, .int (nI k2))] := hl
  have hW0 := hW
  have hV : VW K L M M k1 (fx M k1) (ax M k1) := VW.rf k1 hO
  refine lv_aload_n hx hb dX13_looses_0 rfl (lv_at hl 1 rfl) ?_
  obtain ⟨fs1, hM1, hn1, hl1⟩ := hW.open_12 ik1
  obtain ⟨v2, hv2⟩ : ∃ v : Int64, fs1[7]? = some (.long v : Value) := hl1 7 (by decide)
  refine pg_getN (D := D) (ci := 12) (v := .long v2) (C := RX12) (T := TX12) (N := 51) hx hb hg inG12 hown hK hP ik1.1 hM1 rfl 7 (by decide) (hN.use (Cond.fieldLinkNest RX13 179 RX12 "loose" "J" RX13) 16 rfl rfl) (fun _ h9 => h9) hv2 dX13_looses_1 ?_
  refine lv_lconst (v := 0) hx hb dX13_looses_4 (by decide) ?_
  refine W.lcmp hx hb dX13_looses_5 ?_
  refine lv_if_ge (tgt := 17) hx hb dX13_looses_6 (by decide) (fun c_3 => ?_) (fun c_3 => ?_)
  · have hz := rfl (a := 0)
    refine lv_aload_n hx hb dX13_looses_17 rfl (lv_at hl 1 rfl) ?_
    refine pg_getN (D := D) (ci := 12) (v := .long v2) (C := RX12) (T := TX12) (N := 51) hx hb hg inG12 hown hK hP ik1.1 hM1 rfl 7 (by decide) (hN.use (Cond.fieldLinkNest RX13 179 RX12 "loose" "J" RX13) 16 rfl rfl) (fun _ h9 => h9) hv2 dX13_looses_18 ?_
    refine lv_lstore_n (lv' := [(3, .long v2), (0, .ref za), (1, .ref k1), (2, .int (nI k2))]) hx hb dX13_looses_21 rfl hl (by decide) rfl (fun ls hl => ?_)
    refine lv_lconst (v := 0) hx hb dX13_looses_22 (by decide) ?_
    refine lv_lstore (lv' := [(5, .long 0), (3, .long v2), (0, .ref za), (1, .ref k1), (2, .int (nI k2))]) hx hb dX13_looses_23 hl (by decide) rfl (fun ls hl => ?_)
    refine lv_iconst (v := 0) hx hb dX13_looses_25 (by decide) ?_
    refine lv_istore (lv' := [(7, .int 0), (5, .long 0), (3, .long v2), (0, .ref za), (1, .ref k1), (2, .int (nI k2))]) hx hb dX13_looses_26 hl (by decide) rfl (fun ls hl => ?_)
    have key_5 : ∀ (fu_7 : Nat) (v5w8 : Int64) (v7w8 : Nat) (M_11 : Hp) (H_12 : Heap) (locs : List Loc) (ls : Array Slot), k2 - v7w8 < fu_7 → M_11 k1 = .inr (12, fs1) → v7w8 ≤ k2 → (v7w8 = 0 ∧ v5w8 = 0) ∨ (1 ≤ v5w8.toInt ∧ v5w8.toInt ≤ 1001 * (v7w8 : Int)) → WOM cy K L M_11 → fr K L [15, 93, 94] M M_11 → fG K L [] M M_11 → VW K L M M_11 k1 (fx M k1) (ax M k1) → va_P D vwCl ([(za, (b13_0 z0 z1 (nI z2) (nI z3) z4 z5 z6 z7 z8 z9 (nI z10) z11 z12 z13 z14 z15 (nI z16) z17 z18 z19))] ++ va_pl L M_11) H_12 → va_D A ([(za, (b13_0 z0 z1 (nI z2) (nI z3) z4 z5 z6 z7 z8 z9 (nI z10) z11 z12 z13 z14 z15 (nI z16) z17 z18 z19))] ++ va_pl L M_11) → va_S A s.heap H_12 locs → lv_has ls 12 [(7, .int (nI v7w8)), (5, .long v5w8), (3, .long v2), (0, .ref za), (1, .ref k1), (2, .int (nI k2))] → W p l e R s m ([.ref za, .ref k1, .int (nI k2)] : List Value).toArray below meth c H_12 locs 0 0 Q (F0 m 28 ls []) := by
      intro fu_7
      induction fu_7 with
      | zero => intro v5w8 v7w8 M_11 H_12 locs ls h; exact absurd h (Nat.not_lt_zero _)
      | succ fu_7 ih_6 =>
        intro v5w8 v7w8 M_11 H_12 locs ls hfu hM_13 hx_9 hx_10 hW hF hG hV hP hD hS hl
        refine lv_iload hx hb dX13_looses_28 (lv_at hl 0 rfl) ?_
        refine lv_iload_n hx hb dX13_looses_30 rfl (lv_at hl 5 rfl) ?_
        refine lv_icmp_ge (tgt := 53) hx hb dX13_looses_31 (by decide) (fun c_14 => ?_) (fun c_14 => ?_)
        · have hz := rfl (a := 0)
          have n_15 : k2 ≤ v7w8 := (iLE (a := k2) (b := v7w8) (by omega) (by omega)).mp c_14
          have hnz : ¬ v5w8 = 0 := lsum_nz hx_10 (by omega)
          refine lv_lload_n hx hb dX13_looses_53 rfl (lv_at hl 2 rfl) ?_
          refine lv_lstore (lv' := [(7, .long v2), (5, .long v5w8), (3, .long v2), (0, .ref za), (1, .ref k1), (2, .int (nI k2))]) hx hb dX13_looses_54 hl (by decide) rfl (fun ls hl => ?_)
          refine lv_iconst (v := 0) hx hb dX13_looses_56 (by decide) ?_
          refine lv_istore (lv' := [(9, .int 0), (7, .long v2), (5, .long v5w8), (3, .long v2), (0, .ref za), (1, .ref k1), (2, .int (nI k2))]) hx hb dX13_looses_57 hl (by decide) rfl (fun ls hl => ?_)
          have key_16 : ∀ (fu_18 : Nat) (v7w19 : Int64) (v9w19 : Nat) (M_21 : Hp) (H_22 : Heap) (locs : List Loc) (ls : Array Slot), k2 - v9w19 < fu_18 → M_21 k1 = .inr (12, fs1) → v9w19 ≤ k2 → WOM cy K L M_21 → fr K L [15, 93, 94] M M_21 → fG K L [] M M_21 → VW K L M M_21 k1 (fx M k1) (ax M k1) → va_P D vwCl ([(za, (b13_0 z0 z1 (nI z2) (nI z3) z4 z5 z6 z7 z8 z9 (nI z10) z11 z12 z13 z14 z15 (nI z16) z17 z18 z19))] ++ va_pl L M_21) H_22 → va_D A ([(za, (b13_0 z0 z1 (nI z2) (nI z3) z4 z5 z6 z7 z8 z9 (nI z10) z11 z12 z13 z14 z15 (nI z16) z17 z18 z19))] ++ va_pl L M_21) → va_S A s.heap H_22 locs → lv_has ls 12 [(9, .int (nI v9w19)), (7, .long v7w19), (5, .long v5w8), (3, .long v2), (0, .ref za), (1, .ref k1), (2, .int (nI k2))] → W p l e R s m ([.ref za, .ref k1, .int (nI k2)] : List Value).toArray below meth c H_22 locs 0 0 Q (F0 m 59 ls []) := by
            intro fu_18
            induction fu_18 with
            | zero => intro v7w19 v9w19 M_21 H_22 locs ls h; exact absurd h (Nat.not_lt_zero _)
            | succ fu_18 ih_17 =>
              intro v7w19 v9w19 M_21 H_22 locs ls hfu hM_23 hx_20 hW hF hG hV hP hD hS hl
              refine lv_iload hx hb dX13_looses_59 (lv_at hl 0 rfl) ?_
              refine lv_iload_n hx hb dX13_looses_61 rfl (lv_at hl 6 rfl) ?_
              refine lv_icmp_ge (tgt := 119) hx hb dX13_looses_62 (by decide) (fun c_24 => ?_) (fun c_24 => ?_)
              · have hz := rfl (a := 0)
                have n_25 : k2 ≤ v9w19 := (iLE (a := k2) (b := v9w19) (by omega) (by omega)).mp c_24
                have hl : lv_has ls 12 [(7, .long v7w19), (5, .long v5w8), (3, .long v2), (0, .ref za), (1, .ref k1), (2, .int (nI k2))] := lv_sub hl [1, 2, 3, 4, 5, 6] rfl
                have key_26 : ∀ (fu_28 : Nat) (v7w29 : Int64) (M_30 : Hp) (H_31 : Heap) (locs : List Loc) (ls : Array Slot), v7w29.toInt.toNat < fu_28 → M_30 k1 = .inr (12, fs1) → WOM cy K L M_30 → fr K L [15, 93, 94] M M_30 → fG K L [] M M_30 → VW K L M M_30 k1 (fx M k1) (ax M k1) → va_P D vwCl ([(za, (b13_0 z0 z1 (nI z2) (nI z3) z4 z5 z6 z7 z8 z9 (nI z10) z11 z12 z13 z14 z15 (nI z16) z17 z18 z19))] ++ va_pl L M_30) H_31 → va_D A ([(za, (b13_0 z0 z1 (nI z2) (nI z3) z4 z5 z6 z7 z8 z9 (nI z10) z11 z12 z13 z14 z15 (nI z16) z17 z18 z19))] ++ va_pl L M_30) → va_S A s.heap H_31 locs → lv_has ls 12 [(7, .long v7w29), (5, .long v5w8), (3, .long v2), (0, .ref za), (1, .ref k1), (2, .int (nI k2))] → W p l e R s m ([.ref za, .ref k1, .int (nI k2)] : List Value).toArray below meth c H_31 locs 0 0 Q (F0 m 119 ls []) := by
                  intro fu_28
                  induction fu_28 with
                  | zero => intro v7w29 M_30 H_31 locs ls h; exact absurd h (Nat.not_lt_zero _)
                  | succ fu_28 ih_27 =>
                    intro v7w29 M_30 H_31 locs ls hfu hM_32 hW hF hG hV hP hD hS hl
                    refine lv_lload hx hb dX13_looses_119 (lv_at hl 0 rfl) ?_
                    refine lv_lconst (v := 0) hx hb dX13_looses_121 (by decide) ?_
                    refine W.lcmp hx hb dX13_looses_122 ?_
                    refine lv_if_le (tgt := 196) hx hb dX13_looses_123 (by decide) (fun c_33 => ?_) (fun c_33 => ?_)
                    · have hz := rfl (a := 0)
                      have d_34 : v7w29 ≤ 0 := lc_let c_33
                      refine lv_iconst (v := 0) hx hb dX13_looses_196 (by decide) ?_
                      refine lv_istore (lv' := [(9, .int 0), (7, .long v7w29), (5, .long v5w8), (3, .long v2), (0, .ref za), (1, .ref k1), (2, .int (nI k2))]) hx hb dX13_looses_197 hl (by decide) rfl (fun ls hl => ?_)
                      have key_35 : ∀ (fu_37 : Nat) (v9w38 : Nat) (M_40 : Hp) (H_41 : Heap) (locs : List Loc) (ls : Array Slot), k2 - v9w38 < fu_37 → M_40 k1 = .inr (12, fs1) → v9w38 ≤ k2 → WOM cy K L M_40 → fr K L [15, 93, 94] M M_40 → fG K L [] M M_40 → VW K L M M_40 k1 (fx M k1) (ax M k1) → va_P D vwCl ([(za, (b13_0 z0 z1 (nI z2) (nI z3) z4 z5 z6 z7 z8 z9 (nI z10) z11 z12 z13 z14 z15 (nI z16) z17 z18 z19))] ++ va_pl L M_40) H_41 → va_D A ([(za, (b13_0 z0 z1 (nI z2) (nI z3) z4 z5 z6 z7 z8 z9 (nI z10) z11 z12 z13 z14 z15 (nI z16) z17 z18 z19))] ++ va_pl L M_40) → va_S A s.heap H_41 locs → lv_has ls 12 [(9, .int (nI v9w38)), (7, .long v7w29), (5, .long v5w8), (3, .long v2), (0, .ref za), (1, .ref k1), (2, .int (nI k2))] → W p l e R s m ([.ref za, .ref k1, .int (nI k2)] : List Value).toArray below meth c H_41 locs 0 0 Q (F0 m 199 ls []) := by
                        intro fu_37
                        induction fu_37 with
                        | zero => intro v9w38 M_40 H_41 locs ls h; exact absurd h (Nat.not_lt_zero _)
                        | succ fu_37 ih_36 =>
                          intro v9w38 M_40 H_41 locs ls hfu hM_42 hx_39 hW hF hG hV hP hD hS hl
                          refine lv_iload hx hb dX13_looses_199 (lv_at hl 0 rfl) ?_
                          refine lv_iload_n hx hb dX13_looses_201 rfl (lv_at hl 6 rfl) ?_
                          refine lv_icmp_ge (tgt := 235) hx hb dX13_looses_202 (by decide) (fun c_43 => ?_) (fun c_43 => ?_)
                          · have hz := rfl (a := 0)
                            have n_44 : k2 ≤ v9w38 := (iLE (a := k2) (b := v9w38) (by omega) (by omega)).mp c_43
                            rw [hQ]
                            exact W.vret hx hb hr (fun t ht hW9 => ⟨⟨M_40, rfl, ⟨hW, hF, hG, trivial⟩, ⟨by rw [ht]; exact hP, hD⟩⟩, hS.F ht⟩) hS.2.2 dX13_looses_235
                          · have hz := rfl (a := 0)
                            have n_45 : ¬ (k2 ≤ v9w38) := fun q => c_43 ((iLE (a := k2) (b := v9w38) (by omega) (by omega)).mpr q)
                            refine lv_aload_n hx hb dX13_looses_205 rfl (lv_at hl 5 rfl) ?_
                            refine pg_getN (D := D) (ci := 12) (v := .long v2) (C := RX12) (T := TX12) (N := 51) hx hb hg inG12 hown hK hP ik1.1 hM_42 rfl 7 (by decide) (hN.use (Cond.fieldLinkNest RX13 179 RX12 "loose" "J" RX13) 16 rfl rfl) (fun _ h9 => h9) hv2 dX13_looses_206 ?_
                            refine lv_lconst (v := 0) hx hb dX13_looses_209 (by decide) ?_
                            refine W.lcmp hx hb dX13_looses_210 ?_
                            refine lv_if_ge (tgt := 229) hx hb dX13_looses_211 (by decide) (fun c_46 => ?_) (fun c_46 => ?_)
                            · have hz := rfl (a := 0)
                              refine lv_iinc (v := (nI (v9w38 + 1))) (lv' := [(9, .int (nI (v9w38 + 1))), (7, .long v7w29), (5, .long v5w8), (3, .long v2), (0, .ref za), (1, .ref k1), (2, .int (nI k2))]) hx hb dX13_looses_229 hl (k := 0) rfl (nI_1 v9w38) (by decide) rfl (fun ls hl => ?_)
                              refine lv_goto (tgt := 199) hx hb dX13_looses_232 (by decide) ?_
                              exact ih_36 (v9w38 + 1) M_40 H_41 _ _ (by omega) hM_42 (by omega) hW hF hG hV hP hD hS (lv_sub hl [0, 1, 2, 3, 4, 5, 6] rfl)
                            · have hz := rfl (a := 0)
                              refine lv_aload_n hx hb dX13_looses_214 rfl (lv_at hl 5 rfl) ?_
                              obtain ⟨v48, hv48, hc48⟩ : ∃ v : Nat, fs1[47]? = some (.ref v : Value) ∧ isk K L v 93 120 := hl1 47 (by decide)
                              refine pg_getN (D := D) (ci := 12) (v := .ref v48) (C := RX12) (T := TX12) (N := 51) hx hb hg inG12 hown hK hP ik1.1 hM_42 rfl 47 (by decide) (hN.use (Cond.fieldLinkNest RX13 301 RX12 "result" "[J" RX13) 56 rfl rfl) (fun _ h9 => h9) hv48 dX13_looses_215 ?_
                              refine lv_iload hx hb dX13_looses_218 (lv_at hl 0 rfl) ?_
                              refine lv_aload_n hx hb dX13_looses_220 rfl (lv_at hl 5 rfl) ?_
                              refine pg_getN (D := D) (ci := 12) (v := .ref v48) (C := RX12) (T := TX12) (N := 51) hx hb hg inG12 hown hK hP ik1.1 hM_42 rfl 47 (by decide) (hN.use (Cond.fieldLinkNest RX13 301 RX12 "result" "[J" RX13) 56 rfl rfl) (fun _ h9 => h9) hv48 dX13_looses_221 ?_
                              refine lv_iload hx hb dX13_looses_224 (lv_at hl 0 rfl) ?_
                              obtain ⟨f49, hM49⟩ := hW.open_93 hc48
                              refine pg_lald hx hb hK hP hc48.1 1 hM49 rfl (inbN v9w38 120 (by omega) (by omega)) dX13_looses_226 ?_
                              refine lv_topl (fun f_50 ef_50 => ?_)
                              refine lv_lneg hx hb dX13_looses_227 ?_
                              refine lv_topl (fun f_51 ef_51 => ?_)
                              refine pg_last hx hb hK hP hD hS hc48.1 1 hM49 rfl (inbN v9w38 120 (by omega) (by omega)) dX13_looses_228 (fun H_52 locs hP hD hS => ?_)
                              obtain ⟨M_53, eM_53⟩ : ∃ M1 : Hp, M1 = va_up M_40 v48 (.inl (cy 15, 120, .inr (.inl (vp_updL f49 ((nI v9w38) : Int32).toNatClampNeg f_51)))) := ⟨_, rfl⟩
                              have hV : VW K L M M_53 k1 (fx M k1) (ax M k1) := by rw [eM_53]; exact hV.oth hW ik1 hc48 (by decide)
                              have hP : va_P D vwCl ([(za, (b13_0 z0 z1 (nI z2) (nI z3) z4 z5 z6 z7 z8 z9 (nI z10) z11 z12 z13 z14 z15 (nI z16) z17 z18 z19))] ++ va_pl L M_53) H_52 := by rw [eM_53]; exact hP
                              have hD : va_D A ([(za, (b13_0 z0 z1 (nI z2) (nI z3) z4 z5 z6 z7 z8 z9 (nI z10) z11 z12 z13 z14 z15 (nI z16) z17 z18 z19))] ++ va_pl L M_53) := by rw [eM_53]; exact hD
                              have hW : WOM cy K L M_53 := by rw [eM_53]; exact hW.up_93 hc48 ⟨_, rfl⟩
                              have hF : fr K L [15, 93, 94] M M_53 := by rw [eM_53]; exact hF.up hc48 (by decide)
                              have hG : fG K L [] M M_53 := by rw [eM_53]; exact hG.arr hc48 (by decide)
                              have hM_54 : M_53 v48 = .inl (cy 15, 120, .inr (.inl (vp_updL f49 ((nI v9w38) : Int32).toNatClampNeg f_51))) := by rw [eM_53]; exact va_up_self _ _ _
                              have hM_55 : M_53 k1 = .inr (12, fs1) := by rw [eM_53, va_up_ne _ _ (ik1.neT hc48 (by decide))]; exact hM_42
                              obtain ⟨f_56, ef_56⟩ : ∃ f : Nat → Int64, f = vp_updL f49 ((nI v9w38) : Int32).toNatClampNeg f_51 := ⟨_, rfl⟩
                              rw [← ef_56] at hM_54
                              refine lv_iinc (v := (nI (v9w38 + 1))) (lv' := [(9, .int (nI (v9w38 + 1))), (7, .long v7w29), (5, .long v5w8), (3, .long v2), (0, .ref za), (1, .ref k1), (2, .int (nI k2))]) hx hb dX13_looses_229 hl (k := 0) rfl (nI_1 v9w38) (by decide) rfl (fun ls hl => ?_)
                              refine lv_goto (tgt := 199) hx hb dX13_looses_232 (by decide) ?_
                              exact ih_36 (v9w38 + 1) M_53 H_52 _ _ (by omega) hM_55 (by omega) hW hF hG hV hP hD hS (lv_sub hl [0, 1, 2, 3, 4, 5, 6] rfl)
                      exact key_35 (k2 - 0 + 1) 0 M_30 H_31 _ _ (by omega) hM_32 (by omega) hW hF hG hV hP hD hS (lv_sub hl [0, 1, 2, 3, 4, 5, 6] rfl)
                    · have hz := rfl (a := 0)
                      have d_34 : ¬ v7w29 ≤ 0 := lc_lef c_33
                      refine lv_iconst (v := 0) hx hb dX13_looses_126 (by decide) ?_
                      refine lv_istore (lv' := [(9, .int 0), (7, .long v7w29), (5, .long v5w8), (3, .long v2), (0, .ref za), (1, .ref k1), (2, .int (nI k2))]) hx hb dX13_looses_127 hl (by decide) rfl (fun ls hl => ?_)
                      refine lv_iconst (v := 1) hx hb dX13_looses_129 (by decide) ?_
                      refine lv_istore (lv' := [(10, .int 1), (9, .int 0), (7, .long v7w29), (5, .long v5w8), (3, .long v2), (0, .ref za), (1, .ref k1), (2, .int (nI k2))]) hx hb dX13_looses_130 hl (by decide) rfl (fun ls hl => ?_)
                      have key_57 : ∀ (fu_59 : Nat) (v9w60 : Nat) (v10w60 : Nat) (M_63 : Hp) (H_64 : Heap) (locs : List Loc) (ls : Array Slot), k2 - v10w60 < fu_59 → M_63 k1 = .inr (12, fs1) → v9w60 < k2 → v10w60 ≤ k2 → WOM cy K L M_63 → fr K L [15, 93, 94] M M_63 → fG K L [] M M_63 → VW K L M M_63 k1 (fx M k1) (ax M k1) → va_P D vwCl ([(za, (b13_0 z0 z1 (nI z2) (nI z3) z4 z5 z6 z7 z8 z9 (nI z10) z11 z12 z13 z14 z15 (nI z16) z17 z18 z19))] ++ va_pl L M_63) H_64 → va_D A ([(za, (b13_0 z0 z1 (nI z2) (nI z3) z4 z5 z6 z7 z8 z9 (nI z10) z11 z12 z13 z14 z15 (nI z16) z17 z18 z19))] ++ va_pl L M_63) → va_S A s.heap H_64 locs → lv_has ls 12 [(10, .int (nI v10w60)), (9, .int (nI v9w60)), (7, .long v7w29), (5, .long v5w8), (3, .long v2), (0, .ref za), (1, .ref k1), (2, .int (nI k2))] → W p l e R s m ([.ref za, .ref k1, .int (nI k2)] : List Value).toArray below meth c H_64 locs 0 0 Q (F0 m 132 ls []) := by
                        intro fu_59
                        induction fu_59 with
                        | zero => intro v9w60 v10w60 M_63 H_64 locs ls h; exact absurd h (Nat.not_lt_zero _)
                        | succ fu_59 ih_58 =>
                          intro v9w60 v10w60 M_63 H_64 locs ls hfu hM_65 hx_61 hx_62 hW hF hG hV hP hD hS hl
                          refine lv_iload hx hb dX13_looses_132 (lv_at hl 0 rfl) ?_
                          refine lv_iload_n hx hb dX13_looses_134 rfl (lv_at hl 7 rfl) ?_
                          refine lv_icmp_ge (tgt := 166) hx hb dX13_looses_135 (by decide) (fun c_66 => ?_) (fun c_66 => ?_)
                          · have hz := rfl (a := 0)
                            have n_67 : k2 ≤ v10w60 := (iLE (a := k2) (b := v10w60) (by omega) (by omega)).mp c_66
                            refine lv_aload_n hx hb dX13_looses_166 rfl (lv_at hl 6 rfl) ?_
                            obtain ⟨v68, hv68, hc68⟩ : ∃ v : Nat, fs1[47]? = some (.ref v : Value) ∧ isk K L v 93 120 := hl1 47 (by decide)
                            refine pg_getN (D := D) (ci := 12) (v := .ref v68) (C := RX12) (T := TX12) (N := 51) hx hb hg inG12 hown hK hP ik1.1 hM_65 rfl 47 (by decide) (hN.use (Cond.fieldLinkNest RX13 301 RX12 "result" "[J" RX13) 56 rfl rfl) (fun _ h9 => h9) hv68 dX13_looses_167 ?_
                            refine lv_iload hx hb dX13_looses_170 (lv_at hl 1 rfl) ?_
                            refine lv_dup2_11 hx hb dX13_looses_172 rfl rfl ?_
                            obtain ⟨f69, hM69⟩ := hW.open_93 hc68
                            refine pg_lald hx hb hK hP hc68.1 1 hM69 rfl (inbN v9w60 120 (by omega) (by omega)) dX13_looses_173 ?_
                            refine lv_topl (fun f_70 ef_70 => ?_)
                            refine lv_lconst (v := 1) hx hb dX13_looses_174 (by decide) ?_
                            refine lv_ladd hx hb dX13_looses_175 ?_
                            refine lv_topl (fun f_71 ef_71 => ?_)
                            refine pg_last hx hb hK hP hD hS hc68.1 1 hM69 rfl (inbN v9w60 120 (by omega) (by omega)) dX13_looses_176 (fun H_72 locs hP hD hS => ?_)
                            obtain ⟨M_73, eM_73⟩ : ∃ M1 : Hp, M1 = va_up M_63 v68 (.inl (cy 15, 120, .inr (.inl (vp_updL f69 ((nI v9w60) : Int32).toNatClampNeg f_71)))) := ⟨_, rfl⟩
                            have hV : VW K L M M_73 k1 (fx M k1) (ax M k1) := by rw [eM_73]; exact hV.oth hW ik1 hc68 (by decide)
                            have hP : va_P D vwCl ([(za, (b13_0 z0 z1 (nI z2) (nI z3) z4 z5 z6 z7 z8 z9 (nI z10) z11 z12 z13 z14 z15 (nI z16) z17 z18 z19))] ++ va_pl L M_73) H_72 := by rw [eM_73]; exact hP
                            have hD : va_D A ([(za, (b13_0 z0 z1 (nI z2) (nI z3) z4 z5 z6 z7 z8 z9 (nI z10) z11 z12 z13 z14 z15 (nI z16) z17 z18 z19))] ++ va_pl L M_73) := by rw [eM_73]; exact hD
                            have hW : WOM cy K L M_73 := by rw [eM_73]; exact hW.up_93 hc68 ⟨_, rfl⟩
                            have hF : fr K L [15, 93, 94] M M_73 := by rw [eM_73]; exact hF.up hc68 (by decide)
                            have hG : fG K L [] M M_73 := by rw [eM_73]; exact hG.arr hc68 (by decide)
                            have hM_74 : M_73 v68 = .inl (cy 15, 120, .inr (.inl (vp_updL f69 ((nI v9w60) : Int32).toNatClampNeg f_71))) := by rw [eM_73]; exact va_up_self _ _ _
                            have hM_75 : M_73 k1 = .inr (12, fs1) := by rw [eM_73, va_up_ne _ _ (ik1.neT hc68 (by decide))]; exact hM_65
                            obtain ⟨f_76, ef_76⟩ : ∃ f : Nat → Int64, f = vp_updL f69 ((nI v9w60) : Int32).toNatClampNeg f_71 := ⟨_, rfl⟩
                            rw [← ef_76] at hM_74
                            refine lv_aload_n hx hb dX13_looses_177 rfl (lv_at hl 6 rfl) ?_
                            obtain ⟨v77, hv77, hc77⟩ : ∃ v : Nat, fs1[48]? = some (.ref v : Value) ∧ isk K L v 94 120 := hl1 48 (by decide)
                            refine pg_getN (D := D) (ci := 12) (v := .ref v77) (C := RX12) (T := TX12) (N := 51) hx hb hg inG12 hown hK hP ik1.1 hM_75 rfl 48 (by decide) (hN.use (Cond.fieldLinkNest RX13 304 RX12 "none" "[J" RX13) 57 rfl rfl) (fun _ h9 => h9) hv77 dX13_looses_178 ?_
                            refine lv_iload hx hb dX13_looses_181 (lv_at hl 1 rfl) ?_
                            refine lv_ldc2 (v := (-1)) hx hb hown (hg _ wd_784) dX13_looses_183 ?_
                            obtain ⟨f78, hM78⟩ := hW.open_94 hc77
                            refine pg_last hx hb hK hP hD hS hc77.1 1 hM78 rfl (inbN v9w60 120 (by omega) (by omega)) dX13_looses_186 (fun H_79 locs hP hD hS => ?_)
                            obtain ⟨M_80, eM_80⟩ : ∃ M1 : Hp, M1 = va_up M_73 v77 (.inl (cy 15, 120, .inr (.inl (vp_updL f78 ((nI v9w60) : Int32).toNatClampNeg (-1))))) := ⟨_, rfl⟩
                            have hV : VW K L M M_80 k1 (fx M k1) (ax M k1) := by rw [eM_80]; exact hV.oth hW ik1 hc77 (by decide)
                            have hP : va_P D vwCl ([(za, (b13_0 z0 z1 (nI z2) (nI z3) z4 z5 z6 z7 z8 z9 (nI z10) z11 z12 z13 z14 z15 (nI z16) z17 z18 z19))] ++ va_pl L M_80) H_79 := by rw [eM_80]; exact hP
                            have hD : va_D A ([(za, (b13_0 z0 z1 (nI z2) (nI z3) z4 z5 z6 z7 z8 z9 (nI z10) z11 z12 z13 z14 z15 (nI z16) z17 z18 z19))] ++ va_pl L M_80) := by rw [eM_80]; exact hD
                            have hW : WOM cy K L M_80 := by rw [eM_80]; exact hW.up_94 hc77 ⟨_, rfl⟩
                            have hF : fr K L [15, 93, 94] M M_80 := by rw [eM_80]; exact hF.up hc77 (by decide)
                            have hG : fG K L [] M M_80 := by rw [eM_80]; exact hG.arr hc77 (by decide)
                            have hM_81 : M_80 v77 = .inl (cy 15, 120, .inr (.inl (vp_updL f78 ((nI v9w60) : Int32).toNatClampNeg (-1)))) := by rw [eM_80]; exact va_up_self _ _ _
                            have hM_82 : M_80 v68 = .inl (cy 15, 120, .inr (.inl (f_76))) := by rw [eM_80, va_up_ne _ _ (hc68.neT hc77 (by decide))]; exact hM_74
                            have hM_83 : M_80 k1 = .inr (12, fs1) := by rw [eM_80, va_up_ne _ _ (ik1.neT hc77 (by decide))]; exact hM_75
                            obtain ⟨f_84, ef_84⟩ : ∃ f : Nat → Int64, f = vp_updL f78 ((nI v9w60) : Int32).toNatClampNeg (-1) := ⟨_, rfl⟩
                            rw [← ef_84] at hM_81
                            refine lv_lload hx hb dX13_looses_187 (lv_at hl 2 rfl) ?_
                            refine lv_lconst (v := 1) hx hb dX13_looses_189 (by decide) ?_
                            refine lv_lsub hx hb dX13_looses_190 ?_
                            refine lv_topl (fun f_85 ef_85 => ?_)
                            refine lv_lstore (lv' := [(7, .long f_85), (10, .int (nI v10w60)), (9, .int (nI v9w60)), (5, .long v5w8), (3, .long v2), (0, .ref za), (1, .ref k1), (2, .int (nI k2))]) hx hb dX13_looses_191 hl (by decide) rfl (fun ls hl => ?_)
                            refine lv_goto (tgt := 119) hx hb dX13_looses_193 (by decide) ?_
                            exact ih_27 f_85 M_80 H_79 _ _ (by have h9 := l1dec ef_85 d_34; omega) hM_83 hW hF hG hV hP hD hS (lv_sub hl [0, 3, 4, 5, 6, 7] rfl)
                          · have hz := rfl (a := 0)
                            have n_86 : ¬ (k2 ≤ v10w60) := fun q => c_66 ((iLE (a := k2) (b := v10w60) (by omega) (by omega)).mpr q)
                            refine lv_aload_n hx hb dX13_looses_138 rfl (lv_at hl 6 rfl) ?_
                            obtain ⟨v87, hv87, hc87⟩ : ∃ v : Nat, fs1[48]? = some (.ref v : Value) ∧ isk K L v 94 120 := hl1 48 (by decide)
                            refine pg_getN (D := D) (ci := 12) (v := .ref v87) (C := RX12) (T := TX12) (N := 51) hx hb hg inG12 hown hK hP ik1.1 hM_65 rfl 48 (by decide) (hN.use (Cond.fieldLinkNest RX13 304 RX12 "none" "[J" RX13) 57 rfl rfl) (fun _ h9 => h9) hv87 dX13_looses_139 ?_
                            refine lv_iload hx hb dX13_looses_142 (lv_at hl 0 rfl) ?_
                            obtain ⟨f88, hM88⟩ := hW.open_94 hc87
                            refine pg_lald hx hb hK hP hc87.1 1 hM88 rfl (inbN v10w60 120 (by omega) (by omega)) dX13_looses_144 ?_
                            refine lv_topl (fun f_89 ef_89 => ?_)
                            refine lv_aload_n hx hb dX13_looses_145 rfl (lv_at hl 6 rfl) ?_
                            refine pg_getN (D := D) (ci := 12) (v := .ref v87) (C := RX12) (T := TX12) (N := 51) hx hb hg inG12 hown hK hP ik1.1 hM_65 rfl 48 (by decide) (hN.use (Cond.fieldLinkNest RX13 304 RX12 "none" "[J" RX13) 57 rfl rfl) (fun _ h9 => h9) hv87 dX13_looses_146 ?_
                            refine lv_iload hx hb dX13_looses_149 (lv_at hl 1 rfl) ?_
                            refine pg_lald hx hb hK hP hc87.1 1 hM88 rfl (inbN v9w60 120 (by omega) (by omega)) dX13_looses_151 ?_
                            refine lv_topl (fun f_90 ef_90 => ?_)
                            refine W.lcmp hx hb dX13_looses_152 ?_
                            refine lv_if_le (tgt := 160) hx hb dX13_looses_153 (by decide) (fun c_91 => ?_) (fun c_91 => ?_)
                            · have hz := rfl (a := 0)
                              have d_92 : f_89 ≤ f_90 := lc_let c_91
                              refine lv_iinc (v := (nI (v10w60 + 1))) (lv' := [(10, .int (nI (v10w60 + 1))), (9, .int (nI v9w60)), (7, .long v7w29), (5, .long v5w8), (3, .long v2), (0, .ref za), (1, .ref k1), (2, .int (nI k2))]) hx hb dX13_looses_160 hl (k := 0) rfl (nI_1 v10w60) (by decide) rfl (fun ls hl => ?_)
                              refine lv_goto (tgt := 132) hx hb dX13_looses_163 (by decide) ?_
                              exact ih_58 v9w60 (v10w60 + 1) M_63 H_64 _ _ (by omega) hM_65 (by omega) (by omega) hW hF hG hV hP hD hS (lv_sub hl [0, 1, 2, 3, 4, 5, 6, 7] rfl)
                            · have hz := rfl (a := 0)
                              have d_92 : ¬ f_89 ≤ f_90 := lc_lef c_91
                              refine lv_iload hx hb dX13_looses_156 (lv_at hl 0 rfl) ?_
                              refine lv_istore (lv' := [(9, .int (nI v10w60)), (10, .int (nI v10w60)), (7, .long v7w29), (5, .long v5w8), (3, .long v2), (0, .ref za), (1, .ref k1), (2, .int (nI k2))]) hx hb dX13_looses_158 hl (by decide) rfl (fun ls hl => ?_)
                              refine lv_iinc (v := (nI (v10w60 + 1))) (lv' := [(10, .int (nI (v10w60 + 1))), (9, .int (nI v10w60)), (7, .long v7w29), (5, .long v5w8), (3, .long v2), (0, .ref za), (1, .ref k1), (2, .int (nI k2))]) hx hb dX13_looses_160 hl (k := 1) rfl (nI_1 v10w60) (by decide) rfl (fun ls hl => ?_)
                              refine lv_goto (tgt := 132) hx hb dX13_looses_163 (by decide) ?_
                              exact ih_58 v10w60 (v10w60 + 1) M_63 H_64 _ _ (by omega) hM_65 (by omega) (by omega) hW hF hG hV hP hD hS (lv_sub hl [0, 1, 2, 3, 4, 5, 6, 7] rfl)
                      exact key_57 (k2 - 1 + 1) 0 1 M_30 H_31 _ _ (by omega) hM_32 (by omega) (by omega) hW hF hG hV hP hD hS (lv_sub hl [0, 1, 2, 3, 4, 5, 6, 7] rfl)
                exact key_26 (v7w19.toInt.toNat + 1) v7w19 M_21 H_22 _ _ (by omega) hM_23 hW hF hG hV hP hD hS (lv_sub hl [0, 1, 2, 3, 4, 5] rfl)
              · have hz := rfl (a := 0)
                have n_93 : ¬ (k2 ≤ v9w19) := fun q => c_24 ((iLE (a := k2) (b := v9w19) (by omega) (by omega)).mpr q)
                refine lv_lload_n hx hb dX13_looses_65 rfl (lv_at hl 3 rfl) ?_
                refine lv_aload_n hx hb dX13_looses_66 rfl (lv_at hl 5 rfl) ?_
                obtain ⟨v94, hv94, hc94⟩ : ∃ v : Nat, fs1[45]? = some (.ref v : Value) ∧ isk K L v 46 120 := hl1 45 (by decide)
                refine pg_getN (D := D) (ci := 12) (v := .ref v94) (C := RX12) (T := TX12) (N := 51) hx hb hg inG12 hown hK hP ik1.1 hM_23 rfl 45 (by decide) (hN.use (Cond.fieldLinkNest RX13 268 RX12 "stretchDays" "[I" RX13) 54 rfl rfl) (fun _ h9 => h9) hv94 dX13_looses_67 ?_
                refine lv_iload hx hb dX13_looses_70 (lv_at hl 0 rfl) ?_
                obtain ⟨f95, hM95, hf95⟩ := hW.open_46 hc94
                have hi_96 : vp_in (nI v9w19) 120 := (inbN v9w19 120 (by omega) (by omega))
                refine pg_iald hx hb hK hP hc94.1 0 hM95 rfl hi_96 dX13_looses_72 ?_
                have hp_97 := hf95 _ (vp_lt hi_96)
                obtain ⟨c_98, hc_99, ec_100⟩ := hp_97
                rw [ec_100]
                refine lv_i2l hx hb dX13_looses_73 rfl ?_
                refine lv_topl (fun f_101 ef_101 => ?_)
                refine lv_lmul hx hb dX13_looses_74 ?_
                refine lv_topl (fun f_102 ef_102 => ?_)
                refine lv_lstore (lv' := [(10, .long f_102), (9, .int (nI v9w19)), (7, .long v7w19), (5, .long v5w8), (3, .long v2), (0, .ref za), (1, .ref k1), (2, .int (nI k2))]) hx hb dX13_looses_75 hl (by decide) rfl (fun ls hl => ?_)
                refine lv_aload_n hx hb dX13_looses_77 rfl (lv_at hl 6 rfl) ?_
                obtain ⟨v103, hv103, hc103⟩ : ∃ v : Nat, fs1[47]? = some (.ref v : Value) ∧ isk K L v 93 120 := hl1 47 (by decide)
                refine pg_getN (D := D) (ci := 12) (v := .ref v103) (C := RX12) (T := TX12) (N := 51) hx hb hg inG12 hown hK hP ik1.1 hM_23 rfl 47 (by decide) (hN.use (Cond.fieldLinkNest RX13 301 RX12 "result" "[J" RX13) 56 rfl rfl) (fun _ h9 => h9) hv103 dX13_looses_78 ?_
                refine lv_iload hx hb dX13_looses_81 (lv_at hl 1 rfl) ?_
                refine lv_lload hx hb dX13_looses_83 (lv_at hl 0 rfl) ?_
                refine lv_lload hx hb dX13_looses_85 (lv_at hl 3 rfl) ?_
                refine lv_ldiv hx hb dX13_looses_87 hnz ?_
                refine lv_topl (fun f_104 ef_104 => ?_)
                obtain ⟨f105, hM105⟩ := hW.open_93 hc103
                refine pg_last hx hb hK hP hD hS hc103.1 1 hM105 rfl (inbN v9w19 120 (by omega) (by omega)) dX13_looses_88 (fun H_106 locs hP hD hS => ?_)
                obtain ⟨M_107, eM_107⟩ : ∃ M1 : Hp, M1 = va_up M_21 v103 (.inl (cy 15, 120, .inr (.inl (vp_updL f105 ((nI v9w19) : Int32).toNatClampNeg f_104)))) := ⟨_, rfl⟩
                have hV : VW K L M M_107 k1 (fx M k1) (ax M k1) := by rw [eM_107]; exact hV.oth hW ik1 hc103 (by decide)
                have hP : va_P D vwCl ([(za, (b13_0 z0 z1 (nI z2) (nI z3) z4 z5 z6 z7 z8 z9 (nI z10) z11 z12 z13 z14 z15 (nI z16) z17 z18 z19))] ++ va_pl L M_107) H_106 := by rw [eM_107]; exact hP
                have hD : va_D A ([(za, (b13_0 z0 z1 (nI z2) (nI z3) z4 z5 z6 z7 z8 z9 (nI z10) z11 z12 z13 z14 z15 (nI z16) z17 z18 z19))] ++ va_pl L M_107) := by rw [eM_107]; exact hD
                have hW : WOM cy K L M_107 := by rw [eM_107]; exact hW.up_93 hc103 ⟨_, rfl⟩
                have hF : fr K L [15, 93, 94] M M_107 := by rw [eM_107]; exact hF.up hc103 (by decide)
                have hG : fG K L [] M M_107 := by rw [eM_107]; exact hG.arr hc103 (by decide)
                have hM_108 : M_107 v103 = .inl (cy 15, 120, .inr (.inl (vp_updL f105 ((nI v9w19) : Int32).toNatClampNeg f_104))) := by rw [eM_107]; exact va_up_self _ _ _
                have hM_109 : M_107 k1 = .inr (12, fs1) := by rw [eM_107, va_up_ne _ _ (ik1.neT hc103 (by decide))]; exact hM_23
                have hM_110 : M_107 v94 = .inl (cy 14, 120, .inl (f95)) := by rw [eM_107, va_up_ne _ _ (hc94.neT hc103 (by decide))]; exact hM95
                obtain ⟨f_111, ef_111⟩ : ∃ f : Nat → Int64, f = vp_updL f105 ((nI v9w19) : Int32).toNatClampNeg f_104 := ⟨_, rfl⟩
                rw [← ef_111] at hM_108
                refine lv_aload_n hx hb dX13_looses_89 rfl (lv_at hl 6 rfl) ?_
                obtain ⟨v112, hv112, hc112⟩ : ∃ v : Nat, fs1[48]? = some (.ref v : Value) ∧ isk K L v 94 120 := hl1 48 (by decide)
                refine pg_getN (D := D) (ci := 12) (v := .ref v112) (C := RX12) (T := TX12) (N := 51) hx hb hg inG12 hown hK hP ik1.1 hM_109 rfl 48 (by decide) (hN.use (Cond.fieldLinkNest RX13 304 RX12 "none" "[J" RX13) 57 rfl rfl) (fun _ h9 => h9) hv112 dX13_looses_90 ?_
                refine lv_iload hx hb dX13_looses_93 (lv_at hl 1 rfl) ?_
                refine lv_lload hx hb dX13_looses_95 (lv_at hl 0 rfl) ?_
                refine lv_lload hx hb dX13_looses_97 (lv_at hl 3 rfl) ?_
                refine lv_lrem hx hb dX13_looses_99 hnz ?_
                refine lv_topl (fun f_113 ef_113 => ?_)
                obtain ⟨f114, hM114⟩ := hW.open_94 hc112
                refine pg_last hx hb hK hP hD hS hc112.1 1 hM114 rfl (inbN v9w19 120 (by omega) (by omega)) dX13_looses_100 (fun H_115 locs hP hD hS => ?_)
                obtain ⟨M_116, eM_116⟩ : ∃ M1 : Hp, M1 = va_up M_107 v112 (.inl (cy 15, 120, .inr (.inl (vp_updL f114 ((nI v9w19) : Int32).toNatClampNeg f_113)))) := ⟨_, rfl⟩
                have hV : VW K L M M_116 k1 (fx M k1) (ax M k1) := by rw [eM_116]; exact hV.oth hW ik1 hc112 (by decide)
                have hP : va_P D vwCl ([(za, (b13_0 z0 z1 (nI z2) (nI z3) z4 z5 z6 z7 z8 z9 (nI z10) z11 z12 z13 z14 z15 (nI z16) z17 z18 z19))] ++ va_pl L M_116) H_115 := by rw [eM_116]; exact hP
                have hD : va_D A ([(za, (b13_0 z0 z1 (nI z2) (nI z3) z4 z5 z6 z7 z8 z9 (nI z10) z11 z12 z13 z14 z15 (nI z16) z17 z18 z19))] ++ va_pl L M_116) := by rw [eM_116]; exact hD
                have hW : WOM cy K L M_116 := by rw [eM_116]; exact hW.up_94 hc112 ⟨_, rfl⟩
                have hF : fr K L [15, 93, 94] M M_116 := by rw [eM_116]; exact hF.up hc112 (by decide)
                have hG : fG K L [] M M_116 := by rw [eM_116]; exact hG.arr hc112 (by decide)
                have hM_117 : M_116 v112 = .inl (cy 15, 120, .inr (.inl (vp_updL f114 ((nI v9w19) : Int32).toNatClampNeg f_113))) := by rw [eM_116]; exact va_up_self _ _ _
                have hM_118 : M_116 v103 = .inl (cy 15, 120, .inr (.inl (f_111))) := by rw [eM_116, va_up_ne _ _ (hc103.neT hc112 (by decide))]; exact hM_108
                have hM_119 : M_116 k1 = .inr (12, fs1) := by rw [eM_116, va_up_ne _ _ (ik1.neT hc112 (by decide))]; exact hM_109
                have hM_120 : M_116 v94 = .inl (cy 14, 120, .inl (f95)) := by rw [eM_116, va_up_ne _ _ (hc94.neT hc112 (by decide))]; exact hM_110
                obtain ⟨f_121, ef_121⟩ : ∃ f : Nat → Int64, f = vp_updL f114 ((nI v9w19) : Int32).toNatClampNeg f_113 := ⟨_, rfl⟩
                rw [← ef_121] at hM_117
                refine lv_lload hx hb dX13_looses_101 (lv_at hl 2 rfl) ?_
                refine lv_aload_n hx hb dX13_looses_103 rfl (lv_at hl 6 rfl) ?_
                refine pg_getN (D := D) (ci := 12) (v := .ref v103) (C := RX12) (T := TX12) (N := 51) hx hb hg inG12 hown hK hP ik1.1 hM_119 rfl 47 (by decide) (hN.use (Cond.fieldLinkNest RX13 301 RX12 "result" "[J" RX13) 56 rfl rfl) (fun _ h9 => h9) hv103 dX13_looses_104 ?_
                refine lv_iload hx hb dX13_looses_107 (lv_at hl 1 rfl) ?_
                refine pg_lald hx hb hK hP hc103.1 1 hM_118 rfl (inbN v9w19 120 (by omega) (by omega)) dX13_looses_109 ?_
                refine lv_topl (fun f_122 ef_122 => ?_)
                refine lv_lsub hx hb dX13_looses_110 ?_
                refine lv_topl (fun f_123 ef_123 => ?_)
                refine lv_lstore (lv' := [(7, .long f_123), (10, .long f_102), (9, .int (nI v9w19)), (5, .long v5w8), (3, .long v2), (0, .ref za), (1, .ref k1), (2, .int (nI k2))]) hx hb dX13_looses_111 hl (by decide) rfl (fun ls hl => ?_)
                refine lv_iinc (v := (nI (v9w19 + 1))) (lv' := [(9, .int (nI (v9w19 + 1))), (7, .long f_123), (10, .long f_102), (5, .long v5w8), (3, .long v2), (0, .ref za), (1, .ref k1), (2, .int (nI k2))]) hx hb dX13_looses_113 hl (k := 2) rfl (nI_1 v9w19) (by decide) rfl (fun ls hl => ?_)
                refine lv_goto (tgt := 59) hx hb dX13_looses_116 (by decide) ?_
                exact ih_17 f_123 (v9w19 + 1) M_116 H_115 _ _ (by omega) hM_119 (by omega) hW hF hG hV hP hD hS (lv_sub hl [0, 1, 3, 4, 5, 6, 7] rfl)
          exact key_16 (k2 - 0 + 1) v2 0 M_11 H_12 _ _ (by omega) hM_13 (by omega) hW hF hG hV hP hD hS (lv_sub hl [0, 1, 2, 3, 4, 5, 6] rfl)
        · have hz := rfl (a := 0)
          have n_124 : ¬ (k2 ≤ v7w8) := fun q => c_14 ((iLE (a := k2) (b := v7w8) (by omega) (by omega)).mpr q)
          refine lv_lload hx hb dX13_looses_34 (lv_at hl 1 rfl) ?_
          refine lv_aload_n hx hb dX13_looses_36 rfl (lv_at hl 4 rfl) ?_
          obtain ⟨v125, hv125, hc125⟩ : ∃ v : Nat, fs1[45]? = some (.ref v : Value) ∧ isk K L v 46 120 := hl1 45 (by decide)
          refine pg_getN (D := D) (ci := 12) (v := .ref v125) (C := RX12) (T := TX12) (N := 51) hx hb hg inG12 hown hK hP ik1.1 hM_13 rfl 45 (by decide) (hN.use (Cond.fieldLinkNest RX13 268 RX12 "stretchDays" "[I" RX13) 54 rfl rfl) (fun _ h9 => h9) hv125 dX13_looses_37 ?_
          refine lv_iload hx hb dX13_looses_40 (lv_at hl 0 rfl) ?_
          obtain ⟨f126, hM126, hf126⟩ := hW.open_46 hc125
          have hi_127 : vp_in (nI v7w8) 120 := (inbN v7w8 120 (by omega) (by omega))
          refine pg_iald hx hb hK hP hc125.1 0 hM126 rfl hi_127 dX13_looses_42 ?_
          have hp_128 := hf126 _ (vp_lt hi_127)
          obtain ⟨c_129, hc_130, ec_131⟩ := hp_128
          rw [ec_131]
          have hy45 : (ax M k1 45) = f126 := (congrFun hV.2.2.1 45).symm.trans (ax_of hM_13 (by decide) hv125 hM126)
          have hc0 : v7w8 = 0 → 1 ≤ c_129 := fun z => by
            have h := hs
            have h2 := ec_131
            rw [nI_cl (by omega), z] at h2
            rw [hy45, h2, nI_toInt (by omega)] at h
            omega
          refine lv_i2l hx hb dX13_looses_43 rfl ?_
          refine lv_topl (fun f_132 ef_132 => ?_)
          refine lv_ladd hx hb dX13_looses_44 ?_
          refine lv_topl (fun f_133 ef_133 => ?_)
          refine lv_lstore (lv' := [(5, .long f_133), (7, .int (nI v7w8)), (3, .long v2), (0, .ref za), (1, .ref k1), (2, .int (nI k2))]) hx hb dX13_looses_45 hl (by decide) rfl (fun ls hl => ?_)
          refine lv_iinc (v := (nI (v7w8 + 1))) (lv' := [(7, .int (nI (v7w8 + 1))), (5, .long f_133), (3, .long v2), (0, .ref za), (1, .ref k1), (2, .int (nI k2))]) hx hb dX13_looses_47 hl (k := 1) rfl (nI_1 v7w8) (by decide) rfl (fun ls hl => ?_)
          refine lv_goto (tgt := 28) hx hb dX13_looses_50 (by decide) ?_
          exact ih_6 f_133 (v7w8 + 1) M_11 H_12 _ _ (by omega) hM_13 (by omega) (lsum hx_10 ef_132 ef_133 (by omega) hc0 (by omega)) hW hF hG hV hP hD hS (lv_sub hl [0, 1, 2, 3, 4, 5] rfl)
    exact key_5 (k2 - 0 + 1) 0 0 M s.heap _ _ (by omega) hM1 (by omega) (Or.inl ⟨rfl, rfl⟩) hW hF hG hV hP hD hS (lv_sub hl [0, 1, 2, 3, 4, 5] rfl)
  · have hz := rfl (a := 0)
    refine lv_aload_n hx hb dX13_looses_9 rfl (lv_at hl 1 rfl) ?_
    refine pg_getN (D := D) (ci := 12) (v := .long v2) (C := RX12) (T := TX12) (N := 51) hx hb hg inG12 hown hK hP ik1.1 hM1 rfl 7 (by decide) (hN.use (Cond.fieldLinkNest RX13 179 RX12 "loose" "J" RX13) 16 rfl rfl) (fun _ h9 => h9) hv2 dX13_looses_10 ?_
    refine lv_lneg hx hb dX13_looses_13 ?_
    refine lv_topl (fun f_134 ef_134 => ?_)
    refine lv_goto (tgt := 21) hx hb dX13_looses_14 (by decide) ?_
    refine lv_lstore_n (lv' := [(3, .long f_134), (0, .ref za), (1, .ref k1), (2, .int (nI k2))]) hx hb dX13_looses_21 rfl hl (by decide) rfl (fun ls hl => ?_)
    refine lv_lconst (v := 0) hx hb dX13_looses_22 (by decide) ?_
    refine lv_lstore (lv' := [(5, .long 0), (3, .long f_134), (0, .ref za), (1, .ref k1), (2, .int (nI k2))]) hx hb dX13_looses_23 hl (by decide) rfl (fun ls hl => ?_)
    refine lv_iconst (v := 0) hx hb dX13_looses_25 (by decide) ?_
    refine lv_istore (lv' := [(7, .int 0), (5, .long 0), (3, .long f_134), (0, .ref za), (1, .ref k1), (2, .int (nI k2))]) hx hb dX13_looses_26 hl (by decide) rfl (fun ls hl => ?_)
    have key_135 : ∀ (fu_137 : Nat) (v5w138 : Int64) (v7w138 : Nat) (M_141 : Hp) (H_142 : Heap) (locs : List Loc) (ls : Array Slot), k2 - v7w138 < fu_137 → M_141 k1 = .inr (12, fs1) → v7w138 ≤ k2 → (v7w138 = 0 ∧ v5w138 = 0) ∨ (1 ≤ v5w138.toInt ∧ v5w138.toInt ≤ 1001 * (v7w138 : Int)) → WOM cy K L M_141 → fr K L [15, 93, 94] M M_141 → fG K L [] M M_141 → VW K L M M_141 k1 (fx M k1) (ax M k1) → va_P D vwCl ([(za, (b13_0 z0 z1 (nI z2) (nI z3) z4 z5 z6 z7 z8 z9 (nI z10) z11 z12 z13 z14 z15 (nI z16) z17 z18 z19))] ++ va_pl L M_141) H_142 → va_D A ([(za, (b13_0 z0 z1 (nI z2) (nI z3) z4 z5 z6 z7 z8 z9 (nI z10) z11 z12 z13 z14 z15 (nI z16) z17 z18 z19))] ++ va_pl L M_141) → va_S A s.heap H_142 locs → lv_has ls 12 [(7, .int (nI v7w138)), (5, .long v5w138), (3, .long f_134), (0, .ref za), (1, .ref k1), (2, .int (nI k2))] → W p l e R s m ([.ref za, .ref k1, .int (nI k2)] : List Value).toArray below meth c H_142 locs 0 0 Q (F0 m 28 ls []) := by
      intro fu_137
      induction fu_137 with
      | zero => intro v5w138 v7w138 M_141 H_142 locs ls h; exact absurd h (Nat.not_lt_zero _)
      | succ fu_137 ih_136 =>
        intro v5w138 v7w138 M_141 H_142 locs ls hfu hM_143 hx_139 hx_140 hW hF hG hV hP hD hS hl
        refine lv_iload hx hb dX13_looses_28 (lv_at hl 0 rfl) ?_
        refine lv_iload_n hx hb dX13_looses_30 rfl (lv_at hl 5 rfl) ?_
        refine lv_icmp_ge (tgt := 53) hx hb dX13_looses_31 (by decide) (fun c_144 => ?_) (fun c_144 => ?_)
        · have hz := rfl (a := 0)
          have n_145 : k2 ≤ v7w138 := (iLE (a := k2) (b := v7w138) (by omega) (by omega)).mp c_144
          have hnz : ¬ v5w138 = 0 := lsum_nz hx_140 (by omega)
          refine lv_lload_n hx hb dX13_looses_53 rfl (lv_at hl 2 rfl) ?_
          refine lv_lstore (lv' := [(7, .long f_134), (5, .long v5w138), (3, .long f_134), (0, .ref za), (1, .ref k1), (2, .int (nI k2))]) hx hb dX13_looses_54 hl (by decide) rfl (fun ls hl => ?_)
          refine lv_iconst (v := 0) hx hb dX13_looses_56 (by decide) ?_
          refine lv_istore (lv' := [(9, .int 0), (7, .long f_134), (5, .long v5w138), (3, .long f_134), (0, .ref za), (1, .ref k1), (2, .int (nI k2))]) hx hb dX13_looses_57 hl (by decide) rfl (fun ls hl => ?_)
          have key_146 : ∀ (fu_148 : Nat) (v7w149 : Int64) (v9w149 : Nat) (M_151 : Hp) (H_152 : Heap) (locs : List Loc) (ls : Array Slot), k2 - v9w149 < fu_148 → M_151 k1 = .inr (12, fs1) → v9w149 ≤ k2 → WOM cy K L M_151 → fr K L [15, 93, 94] M M_151 → fG K L [] M M_151 → VW K L M M_151 k1 (fx M k1) (ax M k1) → va_P D vwCl ([(za, (b13_0 z0 z1 (nI z2) (nI z3) z4 z5 z6 z7 z8 z9 (nI z10) z11 z12 z13 z14 z15 (nI z16) z17 z18 z19))] ++ va_pl L M_151) H_152 → va_D A ([(za, (b13_0 z0 z1 (nI z2) (nI z3) z4 z5 z6 z7 z8 z9 (nI z10) z11 z12 z13 z14 z15 (nI z16) z17 z18 z19))] ++ va_pl L M_151) → va_S A s.heap H_152 locs → lv_has ls 12 [(9, .int (nI v9w149)), (7, .long v7w149), (5, .long v5w138), (3, .long f_134), (0, .ref za), (1, .ref k1), (2, .int (nI k2))] → W p l e R s m ([.ref za, .ref k1, .int (nI k2)] : List Value).toArray below meth c H_152 locs 0 0 Q (F0 m 59 ls []) := by
            intro fu_148
            induction fu_148 with
            | zero => intro v7w149 v9w149 M_151 H_152 locs ls h; exact absurd h (Nat.not_lt_zero _)
            | succ fu_148 ih_147 =>
              intro v7w149 v9w149 M_151 H_152 locs ls hfu hM_153 hx_150 hW hF hG hV hP hD hS hl
              refine lv_iload hx hb dX13_looses_59 (lv_at hl 0 rfl) ?_
              refine lv_iload_n hx hb dX13_looses_61 rfl (lv_at hl 6 rfl) ?_
              refine lv_icmp_ge (tgt := 119) hx hb dX13_looses_62 (by decide) (fun c_154 => ?_) (fun c_154 => ?_)
              · have hz := rfl (a := 0)
                have n_155 : k2 ≤ v9w149 := (iLE (a := k2) (b := v9w149) (by omega) (by omega)).mp c_154
                have hl : lv_has ls 12 [(7, .long v7w149), (5, .long v5w138), (3, .long f_134), (0, .ref za), (1, .ref k1), (2, .int (nI k2))] := lv_sub hl [1, 2, 3, 4, 5, 6] rfl
                have key_156 : ∀ (fu_158 : Nat) (v7w159 : Int64) (M_160 : Hp) (H_161 : Heap) (locs : List Loc) (ls : Array Slot), v7w159.toInt.toNat < fu_158 → M_160 k1 = .inr (12, fs1) → WOM cy K L M_160 → fr K L [15, 93, 94] M M_160 → fG K L [] M M_160 → VW K L M M_160 k1 (fx M k1) (ax M k1) → va_P D vwCl ([(za, (b13_0 z0 z1 (nI z2) (nI z3) z4 z5 z6 z7 z8 z9 (nI z10) z11 z12 z13 z14 z15 (nI z16) z17 z18 z19))] ++ va_pl L M_160) H_161 → va_D A ([(za, (b13_0 z0 z1 (nI z2) (nI z3) z4 z5 z6 z7 z8 z9 (nI z10) z11 z12 z13 z14 z15 (nI z16) z17 z18 z19))] ++ va_pl L M_160) → va_S A s.heap H_161 locs → lv_has ls 12 [(7, .long v7w159), (5, .long v5w138), (3, .long f_134), (0, .ref za), (1, .ref k1), (2, .int (nI k2))] → W p l e R s m ([.ref za, .ref k1, .int (nI k2)] : List Value).toArray below meth c H_161 locs 0 0 Q (F0 m 119 ls []) := by
                  intro fu_158
                  induction fu_158 with
                  | zero => intro v7w159 M_160 H_161 locs ls h; exact absurd h (Nat.not_lt_zero _)
                  | succ fu_158 ih_157 =>
                    intro v7w159 M_160 H_161 locs ls hfu hM_162 hW hF hG hV hP hD hS hl
                    refine lv_lload hx hb dX13_looses_119 (lv_at hl 0 rfl) ?_
                    refine lv_lconst (v := 0) hx hb dX13_looses_121 (by decide) ?_
                    refine W.lcmp hx hb dX13_looses_122 ?_
                    refine lv_if_le (tgt := 196) hx hb dX13_looses_123 (by decide) (fun c_163 => ?_) (fun c_163 => ?_)
                    · have hz := rfl (a := 0)
                      have d_164 : v7w159 ≤ 0 := lc_let c_163
                      refine lv_iconst (v := 0) hx hb dX13_looses_196 (by decide) ?_
                      refine lv_istore (lv' := [(9, .int 0), (7, .long v7w159), (5, .long v5w138), (3, .long f_134), (0, .ref za), (1, .ref k1), (2, .int (nI k2))]) hx hb dX13_looses_197 hl (by decide) rfl (fun ls hl => ?_)
                      have key_165 : ∀ (fu_167 : Nat) (v9w168 : Nat) (M_170 : Hp) (H_171 : Heap) (locs : List Loc) (ls : Array Slot), k2 - v9w168 < fu_167 → M_170 k1 = .inr (12, fs1) → v9w168 ≤ k2 → WOM cy K L M_170 → fr K L [15, 93, 94] M M_170 → fG K L [] M M_170 → VW K L M M_170 k1 (fx M k1) (ax M k1) → va_P D vwCl ([(za, (b13_0 z0 z1 (nI z2) (nI z3) z4 z5 z6 z7 z8 z9 (nI z10) z11 z12 z13 z14 z15 (nI z16) z17 z18 z19))] ++ va_pl L M_170) H_171 → va_D A ([(za, (b13_0 z0 z1 (nI z2) (nI z3) z4 z5 z6 z7 z8 z9 (nI z10) z11 z12 z13 z14 z15 (nI z16) z17 z18 z19))] ++ va_pl L M_170) → va_S A s.heap H_171 locs → lv_has ls 12 [(9, .int (nI v9w168)), (7, .long v7w159), (5, .long v5w138), (3, .long f_134), (0, .ref za), (1, .ref k1), (2, .int (nI k2))] → W p l e R s m ([.ref za, .ref k1, .int (nI k2)] : List Value).toArray below meth c H_171 locs 0 0 Q (F0 m 199 ls []) := by
                        intro fu_167
                        induction fu_167 with
                        | zero => intro v9w168 M_170 H_171 locs ls h; exact absurd h (Nat.not_lt_zero _)
                        | succ fu_167 ih_166 =>
                          intro v9w168 M_170 H_171 locs ls hfu hM_172 hx_169 hW hF hG hV hP hD hS hl
                          refine lv_iload hx hb dX13_looses_199 (lv_at hl 0 rfl) ?_
                          refine lv_iload_n hx hb dX13_looses_201 rfl (lv_at hl 6 rfl) ?_
                          refine lv_icmp_ge (tgt := 235) hx hb dX13_looses_202 (by decide) (fun c_173 => ?_) (fun c_173 => ?_)
                          · have hz := rfl (a := 0)
                            have n_174 : k2 ≤ v9w168 := (iLE (a := k2) (b := v9w168) (by omega) (by omega)).mp c_173
                            rw [hQ]
                            exact W.vret hx hb hr (fun t ht hW9 => ⟨⟨M_170, rfl, ⟨hW, hF, hG, trivial⟩, ⟨by rw [ht]; exact hP, hD⟩⟩, hS.F ht⟩) hS.2.2 dX13_looses_235
                          · have hz := rfl (a := 0)
                            have n_175 : ¬ (k2 ≤ v9w168) := fun q => c_173 ((iLE (a := k2) (b := v9w168) (by omega) (by omega)).mpr q)
                            refine lv_aload_n hx hb dX13_looses_205 rfl (lv_at hl 5 rfl) ?_
                            refine pg_getN (D := D) (ci := 12) (v := .long v2) (C := RX12) (T := TX12) (N := 51) hx hb hg inG12 hown hK hP ik1.1 hM_172 rfl 7 (by decide) (hN.use (Cond.fieldLinkNest RX13 179 RX12 "loose" "J" RX13) 16 rfl rfl) (fun _ h9 => h9) hv2 dX13_looses_206 ?_
                            refine lv_lconst (v := 0) hx hb dX13_looses_209 (by decide) ?_
                            refine W.lcmp hx hb dX13_looses_210 ?_
                            refine lv_if_ge (tgt := 229) hx hb dX13_looses_211 (by decide) (fun c_176 => ?_) (fun c_176 => ?_)
                            · have hz := rfl (a := 0)
                              refine lv_iinc (v := (nI (v9w168 + 1))) (lv' := [(9, .int (nI (v9w168 + 1))), (7, .long v7w159), (5, .long v5w138), (3, .long f_134), (0, .ref za), (1, .ref k1), (2, .int (nI k2))]) hx hb dX13_looses_229 hl (k := 0) rfl (nI_1 v9w168) (by decide) rfl (fun ls hl => ?_)
                              refine lv_goto (tgt := 199) hx hb dX13_looses_232 (by decide) ?_
                              exact ih_166 (v9w168 + 1) M_170 H_171 _ _ (by omega) hM_172 (by omega) hW hF hG hV hP hD hS (lv_sub hl [0, 1, 2, 3, 4, 5, 6] rfl)
                            · have hz := rfl (a := 0)
                              refine lv_aload_n hx hb dX13_looses_214 rfl (lv_at hl 5 rfl) ?_
                              obtain ⟨v178, hv178, hc178⟩ : ∃ v : Nat, fs1[47]? = some (.ref v : Value) ∧ isk K L v 93 120 := hl1 47 (by decide)
                              refine pg_getN (D := D) (ci := 12) (v := .ref v178) (C := RX12) (T := TX12) (N := 51) hx hb hg inG12 hown hK hP ik1.1 hM_172 rfl 47 (by decide) (hN.use (Cond.fieldLinkNest RX13 301 RX12 "result" "[J" RX13) 56 rfl rfl) (fun _ h9 => h9) hv178 dX13_looses_215 ?_
                              refine lv_iload hx hb dX13_looses_218 (lv_at hl 0 rfl) ?_
                              refine lv_aload_n hx hb dX13_looses_220 rfl (lv_at hl 5 rfl) ?_
                              refine pg_getN (D := D) (ci := 12) (v := .ref v178) (C := RX12) (T := TX12) (N := 51) hx hb hg inG12 hown hK hP ik1.1 hM_172 rfl 47 (by decide) (hN.use (Cond.fieldLinkNest RX13 301 RX12 "result" "[J" RX13) 56 rfl rfl) (fun _ h9 => h9) hv178 dX13_looses_221 ?_
                              refine lv_iload hx hb dX13_looses_224 (lv_at hl 0 rfl) ?_
                              obtain ⟨f179, hM179⟩ := hW.open_93 hc178
                              refine pg_lald hx hb hK hP hc178.1 1 hM179 rfl (inbN v9w168 120 (by omega) (by omega)) dX13_looses_226 ?_
                              refine lv_topl (fun f_180 ef_180 => ?_)
                              refine lv_lneg hx hb dX13_looses_227 ?_
                              refine lv_topl (fun f_181 ef_181 => ?_)
                              refine pg_last hx hb hK hP hD hS hc178.1 1 hM179 rfl (inbN v9w168 120 (by omega) (by omega)) dX13_looses_228 (fun H_182 locs hP hD hS => ?_)
                              obtain ⟨M_183, eM_183⟩ : ∃ M1 : Hp, M1 = va_up M_170 v178 (.inl (cy 15, 120, .inr (.inl (vp_updL f179 ((nI v9w168) : Int32).toNatClampNeg f_181)))) := ⟨_, rfl⟩
                              have hV : VW K L M M_183 k1 (fx M k1) (ax M k1) := by rw [eM_183]; exact hV.oth hW ik1 hc178 (by decide)
                              have hP : va_P D vwCl ([(za, (b13_0 z0 z1 (nI z2) (nI z3) z4 z5 z6 z7 z8 z9 (nI z10) z11 z12 z13 z14 z15 (nI z16) z17 z18 z19))] ++ va_pl L M_183) H_182 := by rw [eM_183]; exact hP
                              have hD : va_D A ([(za, (b13_0 z0 z1 (nI z2) (nI z3) z4 z5 z6 z7 z8 z9 (nI z10) z11 z12 z13 z14 z15 (nI z16) z17 z18 z19))] ++ va_pl L M_183) := by rw [eM_183]; exact hD
                              have hW : WOM cy K L M_183 := by rw [eM_183]; exact hW.up_93 hc178 ⟨_, rfl⟩
                              have hF : fr K L [15, 93, 94] M M_183 := by rw [eM_183]; exact hF.up hc178 (by decide)
                              have hG : fG K L [] M M_183 := by rw [eM_183]; exact hG.arr hc178 (by decide)
                              have hM_184 : M_183 v178 = .inl (cy 15, 120, .inr (.inl (vp_updL f179 ((nI v9w168) : Int32).toNatClampNeg f_181))) := by rw [eM_183]; exact va_up_self _ _ _
                              have hM_185 : M_183 k1 = .inr (12, fs1) := by rw [eM_183, va_up_ne _ _ (ik1.neT hc178 (by decide))]; exact hM_172
                              obtain ⟨f_186, ef_186⟩ : ∃ f : Nat → Int64, f = vp_updL f179 ((nI v9w168) : Int32).toNatClampNeg f_181 := ⟨_, rfl⟩
                              rw [← ef_186] at hM_184
                              refine lv_iinc (v := (nI (v9w168 + 1))) (lv' := [(9, .int (nI (v9w168 + 1))), (7, .long v7w159), (5, .long v5w138), (3, .long f_134), (0, .ref za), (1, .ref k1), (2, .int (nI k2))]) hx hb dX13_looses_229 hl (k := 0) rfl (nI_1 v9w168) (by decide) rfl (fun ls hl => ?_)
                              refine lv_goto (tgt := 199) hx hb dX13_looses_232 (by decide) ?_
                              exact ih_166 (v9w168 + 1) M_183 H_182 _ _ (by omega) hM_185 (by omega) hW hF hG hV hP hD hS (lv_sub hl [0, 1, 2, 3, 4, 5, 6] rfl)
                      exact key_165 (k2 - 0 + 1) 0 M_160 H_161 _ _ (by omega) hM_162 (by omega) hW hF hG hV hP hD hS (lv_sub hl [0, 1, 2, 3, 4, 5, 6] rfl)
                    · have hz := rfl (a := 0)
                      have d_164 : ¬ v7w159 ≤ 0 := lc_lef c_163
                      refine lv_iconst (v := 0) hx hb dX13_looses_126 (by decide) ?_
                      refine lv_istore (lv' := [(9, .int 0), (7, .long v7w159), (5, .long v5w138), (3, .long f_134), (0, .ref za), (1, .ref k1), (2, .int (nI k2))]) hx hb dX13_looses_127 hl (by decide) rfl (fun ls hl => ?_)
                      refine lv_iconst (v := 1) hx hb dX13_looses_129 (by decide) ?_
                      refine lv_istore (lv' := [(10, .int 1), (9, .int 0), (7, .long v7w159), (5, .long v5w138), (3, .long f_134), (0, .ref za), (1, .ref k1), (2, .int (nI k2))]) hx hb dX13_looses_130 hl (by decide) rfl (fun ls hl => ?_)
                      have key_187 : ∀ (fu_189 : Nat) (v9w190 : Nat) (v10w190 : Nat) (M_193 : Hp) (H_194 : Heap) (locs : List Loc) (ls : Array Slot), k2 - v10w190 < fu_189 → M_193 k1 = .inr (12, fs1) → v9w190 < k2 → v10w190 ≤ k2 → WOM cy K L M_193 → fr K L [15, 93, 94] M M_193 → fG K L [] M M_193 → VW K L M M_193 k1 (fx M k1) (ax M k1) → va_P D vwCl ([(za, (b13_0 z0 z1 (nI z2) (nI z3) z4 z5 z6 z7 z8 z9 (nI z10) z11 z12 z13 z14 z15 (nI z16) z17 z18 z19))] ++ va_pl L M_193) H_194 → va_D A ([(za, (b13_0 z0 z1 (nI z2) (nI z3) z4 z5 z6 z7 z8 z9 (nI z10) z11 z12 z13 z14 z15 (nI z16) z17 z18 z19))] ++ va_pl L M_193) → va_S A s.heap H_194 locs → lv_has ls 12 [(10, .int (nI v10w190)), (9, .int (nI v9w190)), (7, .long v7w159), (5, .long v5w138), (3, .long f_134), (0, .ref za), (1, .ref k1), (2, .int (nI k2))] → W p l e R s m ([.ref za, .ref k1, .int (nI k2)] : List Value).toArray below meth c H_194 locs 0 0 Q (F0 m 132 ls []) := by
                        intro fu_189
                        induction fu_189 with
                        | zero => intro v9w190 v10w190 M_193 H_194 locs ls h; exact absurd h (Nat.not_lt_zero _)
                        | succ fu_189 ih_188 =>
                          intro v9w190 v10w190 M_193 H_194 locs ls hfu hM_195 hx_191 hx_192 hW hF hG hV hP hD hS hl
                          refine lv_iload hx hb dX13_looses_132 (lv_at hl 0 rfl) ?_
                          refine lv_iload_n hx hb dX13_looses_134 rfl (lv_at hl 7 rfl) ?_
                          refine lv_icmp_ge (tgt := 166) hx hb dX13_looses_135 (by decide) (fun c_196 => ?_) (fun c_196 => ?_)
                          · have hz := rfl (a := 0)
                            have n_197 : k2 ≤ v10w190 := (iLE (a := k2) (b := v10w190) (by omega) (by omega)).mp c_196
                            refine lv_aload_n hx hb dX13_looses_166 rfl (lv_at hl 6 rfl) ?_
                            obtain ⟨v198, hv198, hc198⟩ : ∃ v : Nat, fs1[47]? = some (.ref v : Value) ∧ isk K L v 93 120 := hl1 47 (by decide)
                            refine pg_getN (D := D) (ci := 12) (v := .ref v198) (C := RX12) (T := TX12) (N := 51) hx hb hg inG12 hown hK hP ik1.1 hM_195 rfl 47 (by decide) (hN.use (Cond.fieldLinkNest RX13 301 RX12 "result" "[J" RX13) 56 rfl rfl) (fun _ h9 => h9) hv198 dX13_looses_167 ?_
                            refine lv_iload hx hb dX13_looses_170 (lv_at hl 1 rfl) ?_
                            refine lv_dup2_11 hx hb dX13_looses_172 rfl rfl ?_
                            obtain ⟨f199, hM199⟩ := hW.open_93 hc198
                            refine pg_lald hx hb hK hP hc198.1 1 hM199 rfl (inbN v9w190 120 (by omega) (by omega)) dX13_looses_173 ?_
                            refine lv_topl (fun f_200 ef_200 => ?_)
                            refine lv_lconst (v := 1) hx hb dX13_looses_174 (by decide) ?_
                            refine lv_ladd hx hb dX13_looses_175 ?_
                            refine lv_topl (fun f_201 ef_201 => ?_)
                            refine pg_last hx hb hK hP hD hS hc198.1 1 hM199 rfl (inbN v9w190 120 (by omega) (by omega)) dX13_looses_176 (fun H_202 locs hP hD hS => ?_)
                            obtain ⟨M_203, eM_203⟩ : ∃ M1 : Hp, M1 = va_up M_193 v198 (.inl (cy 15, 120, .inr (.inl (vp_updL f199 ((nI v9w190) : Int32).toNatClampNeg f_201)))) := ⟨_, rfl⟩
                            have hV : VW K L M M_203 k1 (fx M k1) (ax M k1) := by rw [eM_203]; exact hV.oth hW ik1 hc198 (by decide)
                            have hP : va_P D vwCl ([(za, (b13_0 z0 z1 (nI z2) (nI z3) z4 z5 z6 z7 z8 z9 (nI z10) z11 z12 z13 z14 z15 (nI z16) z17 z18 z19))] ++ va_pl L M_203) H_202 := by rw [eM_203]; exact hP
                            have hD : va_D A ([(za, (b13_0 z0 z1 (nI z2) (nI z3) z4 z5 z6 z7 z8 z9 (nI z10) z11 z12 z13 z14 z15 (nI z16) z17 z18 z19))] ++ va_pl L M_203) := by rw [eM_203]; exact hD
                            have hW : WOM cy K L M_203 := by rw [eM_203]; exact hW.up_93 hc198 ⟨_, rfl⟩
                            have hF : fr K L [15, 93, 94] M M_203 := by rw [eM_203]; exact hF.up hc198 (by decide)
                            have hG : fG K L [] M M_203 := by rw [eM_203]; exact hG.arr hc198 (by decide)
                            have hM_204 : M_203 v198 = .inl (cy 15, 120, .inr (.inl (vp_updL f199 ((nI v9w190) : Int32).toNatClampNeg f_201))) := by rw [eM_203]; exact va_up_self _ _ _
                            have hM_205 : M_203 k1 = .inr (12, fs1) := by rw [eM_203, va_up_ne _ _ (ik1.neT hc198 (by decide))]; exact hM_195
                            obtain ⟨f_206, ef_206⟩ : ∃ f : Nat → Int64, f = vp_updL f199 ((nI v9w190) : Int32).toNatClampNeg f_201 := ⟨_, rfl⟩
                            rw [← ef_206] at hM_204
                            refine lv_aload_n hx hb dX13_looses_177 rfl (lv_at hl 6 rfl) ?_
                            obtain ⟨v207, hv207, hc207⟩ : ∃ v : Nat, fs1[48]? = some (.ref v : Value) ∧ isk K L v 94 120 := hl1 48 (by decide)
                            refine pg_getN (D := D) (ci := 12) (v := .ref v207) (C := RX12) (T := TX12) (N := 51) hx hb hg inG12 hown hK hP ik1.1 hM_205 rfl 48 (by decide) (hN.use (Cond.fieldLinkNest RX13 304 RX12 "none" "[J" RX13) 57 rfl rfl) (fun _ h9 => h9) hv207 dX13_looses_178 ?_
                            refine lv_iload hx hb dX13_looses_181 (lv_at hl 1 rfl) ?_
                            refine lv_ldc2 (v := (-1)) hx hb hown (hg _ wd_784) dX13_looses_183 ?_
                            obtain ⟨f208, hM208⟩ := hW.open_94 hc207
                            refine pg_last hx hb hK hP hD hS hc207.1 1 hM208 rfl (inbN v9w190 120 (by omega) (by omega)) dX13_looses_186 (fun H_209 locs hP hD hS => ?_)
                            obtain ⟨M_210, eM_210⟩ : ∃ M1 : Hp, M1 = va_up M_203 v207 (.inl (cy 15, 120, .inr (.inl (vp_updL f208 ((nI v9w190) : Int32).toNatClampNeg (-1))))) := ⟨_, rfl⟩
                            have hV : VW K L M M_210 k1 (fx M k1) (ax M k1) := by rw [eM_210]; exact hV.oth hW ik1 hc207 (by decide)
                            have hP : va_P D vwCl ([(za, (b13_0 z0 z1 (nI z2) (nI z3) z4 z5 z6 z7 z8 z9 (nI z10) z11 z12 z13 z14 z15 (nI z16) z17 z18 z19))] ++ va_pl L M_210) H_209 := by rw [eM_210]; exact hP
                            have hD : va_D A ([(za, (b13_0 z0 z1 (nI z2) (nI z3) z4 z5 z6 z7 z8 z9 (nI z10) z11 z12 z13 z14 z15 (nI z16) z17 z18 z19))] ++ va_pl L M_210) := by rw [eM_210]; exact hD
                            have hW : WOM cy K L M_210 := by rw [eM_210]; exact hW.up_94 hc207 ⟨_, rfl⟩
                            have hF : fr K L [15, 93, 94] M M_210 := by rw [eM_210]; exact hF.up hc207 (by decide)
                            have hG : fG K L [] M M_210 := by rw [eM_210]; exact hG.arr hc207 (by decide)
                            have hM_211 : M_210 v207 = .inl (cy 15, 120, .inr (.inl (vp_updL f208 ((nI v9w190) : Int32).toNatClampNeg (-1)))) := by rw [eM_210]; exact va_up_self _ _ _
                            have hM_212 : M_210 v198 = .inl (cy 15, 120, .inr (.inl (f_206))) := by rw [eM_210, va_up_ne _ _ (hc198.neT hc207 (by decide))]; exact hM_204
                            have hM_213 : M_210 k1 = .inr (12, fs1) := by rw [eM_210, va_up_ne _ _ (ik1.neT hc207 (by decide))]; exact hM_205
                            obtain ⟨f_214, ef_214⟩ : ∃ f : Nat → Int64, f = vp_updL f208 ((nI v9w190) : Int32).toNatClampNeg (-1) := ⟨_, rfl⟩
                            rw [← ef_214] at hM_211
                            refine lv_lload hx hb dX13_looses_187 (lv_at hl 2 rfl) ?_
                            refine lv_lconst (v := 1) hx hb dX13_looses_189 (by decide) ?_
                            refine lv_lsub hx hb dX13_looses_190 ?_
                            refine lv_topl (fun f_215 ef_215 => ?_)
                            refine lv_lstore (lv' := [(7, .long f_215), (10, .int (nI v10w190)), (9, .int (nI v9w190)), (5, .long v5w138), (3, .long f_134), (0, .ref za), (1, .ref k1), (2, .int (nI k2))]) hx hb dX13_looses_191 hl (by decide) rfl (fun ls hl => ?_)
                            refine lv_goto (tgt := 119) hx hb dX13_looses_193 (by decide) ?_
                            exact ih_157 f_215 M_210 H_209 _ _ (by have h9 := l1dec ef_215 d_164; omega) hM_213 hW hF hG hV hP hD hS (lv_sub hl [0, 3, 4, 5, 6, 7] rfl)
                          · have hz := rfl (a := 0)
                            have n_216 : ¬ (k2 ≤ v10w190) := fun q => c_196 ((iLE (a := k2) (b := v10w190) (by omega) (by omega)).mpr q)
                            refine lv_aload_n hx hb dX13_looses_138 rfl (lv_at hl 6 rfl) ?_
                            obtain ⟨v217, hv217, hc217⟩ : ∃ v : Nat, fs1[48]? = some (.ref v : Value) ∧ isk K L v 94 120 := hl1 48 (by decide)
                            refine pg_getN (D := D) (ci := 12) (v := .ref v217) (C := RX12) (T := TX12) (N := 51) hx hb hg inG12 hown hK hP ik1.1 hM_195 rfl 48 (by decide) (hN.use (Cond.fieldLinkNest RX13 304 RX12 "none" "[J" RX13) 57 rfl rfl) (fun _ h9 => h9) hv217 dX13_looses_139 ?_
                            refine lv_iload hx hb dX13_looses_142 (lv_at hl 0 rfl) ?_
                            obtain ⟨f218, hM218⟩ := hW.open_94 hc217
                            refine pg_lald hx hb hK hP hc217.1 1 hM218 rfl (inbN v10w190 120 (by omega) (by omega)) dX13_looses_144 ?_
                            refine lv_topl (fun f_219 ef_219 => ?_)
                            refine lv_aload_n hx hb dX13_looses_145 rfl (lv_at hl 6 rfl) ?_
                            refine pg_getN (D := D) (ci := 12) (v := .ref v217) (C := RX12) (T := TX12) (N := 51) hx hb hg inG12 hown hK hP ik1.1 hM_195 rfl 48 (by decide) (hN.use (Cond.fieldLinkNest RX13 304 RX12 "none" "[J" RX13) 57 rfl rfl) (fun _ h9 => h9) hv217 dX13_looses_146 ?_
                            refine lv_iload hx hb dX13_looses_149 (lv_at hl 1 rfl) ?_
                            refine pg_lald hx hb hK hP hc217.1 1 hM218 rfl (inbN v9w190 120 (by omega) (by omega)) dX13_looses_151 ?_
                            refine lv_topl (fun f_220 ef_220 => ?_)
                            refine W.lcmp hx hb dX13_looses_152 ?_
                            refine lv_if_le (tgt := 160) hx hb dX13_looses_153 (by decide) (fun c_221 => ?_) (fun c_221 => ?_)
                            · have hz := rfl (a := 0)
                              have d_222 : f_219 ≤ f_220 := lc_let c_221
                              refine lv_iinc (v := (nI (v10w190 + 1))) (lv' := [(10, .int (nI (v10w190 + 1))), (9, .int (nI v9w190)), (7, .long v7w159), (5, .long v5w138), (3, .long f_134), (0, .ref za), (1, .ref k1), (2, .int (nI k2))]) hx hb dX13_looses_160 hl (k := 0) rfl (nI_1 v10w190) (by decide) rfl (fun ls hl => ?_)
                              refine lv_goto (tgt := 132) hx hb dX13_looses_163 (by decide) ?_
                              exact ih_188 v9w190 (v10w190 + 1) M_193 H_194 _ _ (by omega) hM_195 (by omega) (by omega) hW hF hG hV hP hD hS (lv_sub hl [0, 1, 2, 3, 4, 5, 6, 7] rfl)
                            · have hz := rfl (a := 0)
                              have d_222 : ¬ f_219 ≤ f_220 := lc_lef c_221
                              refine lv_iload hx hb dX13_looses_156 (lv_at hl 0 rfl) ?_
                              refine lv_istore (lv' := [(9, .int (nI v10w190)), (10, .int (nI v10w190)), (7, .long v7w159), (5, .long v5w138), (3, .long f_134), (0, .ref za), (1, .ref k1), (2, .int (nI k2))]) hx hb dX13_looses_158 hl (by decide) rfl (fun ls hl => ?_)
                              refine lv_iinc (v := (nI (v10w190 + 1))) (lv' := [(10, .int (nI (v10w190 + 1))), (9, .int (nI v10w190)), (7, .long v7w159), (5, .long v5w138), (3, .long f_134), (0, .ref za), (1, .ref k1), (2, .int (nI k2))]) hx hb dX13_looses_160 hl (k := 1) rfl (nI_1 v10w190) (by decide) rfl (fun ls hl => ?_)
                              refine lv_goto (tgt := 132) hx hb dX13_looses_163 (by decide) ?_
                              exact ih_188 v10w190 (v10w190 + 1) M_193 H_194 _ _ (by omega) hM_195 (by omega) (by omega) hW hF hG hV hP hD hS (lv_sub hl [0, 1, 2, 3, 4, 5, 6, 7] rfl)
                      exact key_187 (k2 - 1 + 1) 0 1 M_160 H_161 _ _ (by omega) hM_162 (by omega) (by omega) hW hF hG hV hP hD hS (lv_sub hl [0, 1, 2, 3, 4, 5, 6, 7] rfl)
                exact key_156 (v7w149.toInt.toNat + 1) v7w149 M_151 H_152 _ _ (by omega) hM_153 hW hF hG hV hP hD hS (lv_sub hl [0, 1, 2, 3, 4, 5] rfl)
              · have hz := rfl (a := 0)
                have n_223 : ¬ (k2 ≤ v9w149) := fun q => c_154 ((iLE (a := k2) (b := v9w149) (by omega) (by omega)).mpr q)
                refine lv_lload_n hx hb dX13_looses_65 rfl (lv_at hl 3 rfl) ?_
                refine lv_aload_n hx hb dX13_looses_66 rfl (lv_at hl 5 rfl) ?_
                obtain ⟨v224, hv224, hc224⟩ : ∃ v : Nat, fs1[45]? = some (.ref v : Value) ∧ isk K L v 46 120 := hl1 45 (by decide)
                refine pg_getN (D := D) (ci := 12) (v := .ref v224) (C := RX12) (T := TX12) (N := 51) hx hb hg inG12 hown hK hP ik1.1 hM_153 rfl 45 (by decide) (hN.use (Cond.fieldLinkNest RX13 268 RX12 "stretchDays" "[I" RX13) 54 rfl rfl) (fun _ h9 => h9) hv224 dX13_looses_67 ?_
                refine lv_iload hx hb dX13_looses_70 (lv_at hl 0 rfl) ?_
                obtain ⟨f225, hM225, hf225⟩ := hW.open_46 hc224
                have hi_226 : vp_in (nI v9w149) 120 := (inbN v9w149 120 (by omega) (by omega))
                refine pg_iald hx hb hK hP hc224.1 0 hM225 rfl hi_226 dX13_looses_72 ?_
                have hp_227 := hf225 _ (vp_lt hi_226)
                obtain ⟨c_228, hc_229, ec_230⟩ := hp_227
                rw [ec_230]
                refine lv_i2l hx hb dX13_looses_73 rfl ?_
                refine lv_topl (fun f_231 ef_231 => ?_)
                refine lv_lmul hx hb dX13_looses_74 ?_
                refine lv_topl (fun f_232 ef_232 => ?_)
                refine lv_lstore (lv' := [(10, .long f_232), (9, .int (nI v9w149)), (7, .long v7w149), (5, .long v5w138), (3, .long f_134), (0, .ref za), (1, .ref k1), (2, .int (nI k2))]) hx hb dX13_looses_75 hl (by decide) rfl (fun ls hl => ?_)
                refine lv_aload_n hx hb dX13_looses_77 rfl (lv_at hl 6 rfl) ?_
                obtain ⟨v233, hv233, hc233⟩ : ∃ v : Nat, fs1[47]? = some (.ref v : Value) ∧ isk K L v 93 120 := hl1 47 (by decide)
                refine pg_getN (D := D) (ci := 12) (v := .ref v233) (C := RX12) (T := TX12) (N := 51) hx hb hg inG12 hown hK hP ik1.1 hM_153 rfl 47 (by decide) (hN.use (Cond.fieldLinkNest RX13 301 RX12 "result" "[J" RX13) 56 rfl rfl) (fun _ h9 => h9) hv233 dX13_looses_78 ?_
                refine lv_iload hx hb dX13_looses_81 (lv_at hl 1 rfl) ?_
                refine lv_lload hx hb dX13_looses_83 (lv_at hl 0 rfl) ?_
                refine lv_lload hx hb dX13_looses_85 (lv_at hl 3 rfl) ?_
                refine lv_ldiv hx hb dX13_looses_87 hnz ?_
                refine lv_topl (fun f_234 ef_234 => ?_)
                obtain ⟨f235, hM235⟩ := hW.open_93 hc233
                refine pg_last hx hb hK hP hD hS hc233.1 1 hM235 rfl (inbN v9w149 120 (by omega) (by omega)) dX13_looses_88 (fun H_236 locs hP hD hS => ?_)
                obtain ⟨M_237, eM_237⟩ : ∃ M1 : Hp, M1 = va_up M_151 v233 (.inl (cy 15, 120, .inr (.inl (vp_updL f235 ((nI v9w149) : Int32).toNatClampNeg f_234)))) := ⟨_, rfl⟩
                have hV : VW K L M M_237 k1 (fx M k1) (ax M k1) := by rw [eM_237]; exact hV.oth hW ik1 hc233 (by decide)
                have hP : va_P D vwCl ([(za, (b13_0 z0 z1 (nI z2) (nI z3) z4 z5 z6 z7 z8 z9 (nI z10) z11 z12 z13 z14 z15 (nI z16) z17 z18 z19))] ++ va_pl L M_237) H_236 := by rw [eM_237]; exact hP
                have hD : va_D A ([(za, (b13_0 z0 z1 (nI z2) (nI z3) z4 z5 z6 z7 z8 z9 (nI z10) z11 z12 z13 z14 z15 (nI z16) z17 z18 z19))] ++ va_pl L M_237) := by rw [eM_237]; exact hD
                have hW : WOM cy K L M_237 := by rw [eM_237]; exact hW.up_93 hc233 ⟨_, rfl⟩
                have hF : fr K L [15, 93, 94] M M_237 := by rw [eM_237]; exact hF.up hc233 (by decide)
                have hG : fG K L [] M M_237 := by rw [eM_237]; exact hG.arr hc233 (by decide)
                have hM_238 : M_237 v233 = .inl (cy 15, 120, .inr (.inl (vp_updL f235 ((nI v9w149) : Int32).toNatClampNeg f_234))) := by rw [eM_237]; exact va_up_self _ _ _
                have hM_239 : M_237 k1 = .inr (12, fs1) := by rw [eM_237, va_up_ne _ _ (ik1.neT hc233 (by decide))]; exact hM_153
                have hM_240 : M_237 v224 = .inl (cy 14, 120, .inl (f225)) := by rw [eM_237, va_up_ne _ _ (hc224.neT hc233 (by decide))]; exact hM225
                obtain ⟨f_241, ef_241⟩ : ∃ f : Nat → Int64, f = vp_updL f235 ((nI v9w149) : Int32).toNatClampNeg f_234 := ⟨_, rfl⟩
                rw [← ef_241] at hM_238
                refine lv_aload_n hx hb dX13_looses_89 rfl (lv_at hl 6 rfl) ?_
                obtain ⟨v242, hv242, hc242⟩ : ∃ v : Nat, fs1[48]? = some (.ref v : Value) ∧ isk K L v 94 120 := hl1 48 (by decide)
                refine pg_getN (D := D) (ci := 12) (v := .ref v242) (C := RX12) (T := TX12) (N := 51) hx hb hg inG12 hown hK hP ik1.1 hM_239 rfl 48 (by decide) (hN.use (Cond.fieldLinkNest RX13 304 RX12 "none" "[J" RX13) 57 rfl rfl) (fun _ h9 => h9) hv242 dX13_looses_90 ?_
                refine lv_iload hx hb dX13_looses_93 (lv_at hl 1 rfl) ?_
                refine lv_lload hx hb dX13_looses_95 (lv_at hl 0 rfl) ?_
                refine lv_lload hx hb dX13_looses_97 (lv_at hl 3 rfl) ?_
                refine lv_lrem hx hb dX13_looses_99 hnz ?_
                refine lv_topl (fun f_243 ef_243 => ?_)
                obtain ⟨f244, hM244⟩ := hW.open_94 hc242
                refine pg_last hx hb hK hP hD hS hc242.1 1 hM244 rfl (inbN v9w149 120 (by omega) (by omega)) dX13_looses_100 (fun H_245 locs hP hD hS => ?_)
                obtain ⟨M_246, eM_246⟩ : ∃ M1 : Hp, M1 = va_up M_237 v242 (.inl (cy 15, 120, .inr (.inl (vp_updL f244 ((nI v9w149) : Int32).toNatClampNeg f_243)))) := ⟨_, rfl⟩
                have hV : VW K L M M_246 k1 (fx M k1) (ax M k1) := by rw [eM_246]; exact hV.oth hW ik1 hc242 (by decide)
                have hP : va_P D vwCl ([(za, (b13_0 z0 z1 (nI z2) (nI z3) z4 z5 z6 z7 z8 z9 (nI z10) z11 z12 z13 z14 z15 (nI z16) z17 z18 z19))] ++ va_pl L M_246) H_245 := by rw [eM_246]; exact hP
                have hD : va_D A ([(za, (b13_0 z0 z1 (nI z2) (nI z3) z4 z5 z6 z7 z8 z9 (nI z10) z11 z12 z13 z14 z15 (nI z16) z17 z18 z19))] ++ va_pl L M_246) := by rw [eM_246]; exact hD
                have hW : WOM cy K L M_246 := by rw [eM_246]; exact hW.up_94 hc242 ⟨_, rfl⟩
                have hF : fr K L [15, 93, 94] M M_246 := by rw [eM_246]; exact hF.up hc242 (by decide)
                have hG : fG K L [] M M_246 := by rw [eM_246]; exact hG.arr hc242 (by decide)
                have hM_247 : M_246 v242 = .inl (cy 15, 120, .inr (.inl (vp_updL f244 ((nI v9w149) : Int32).toNatClampNeg f_243))) := by rw [eM_246]; exact va_up_self _ _ _
                have hM_248 : M_246 v233 = .inl (cy 15, 120, .inr (.inl (f_241))) := by rw [eM_246, va_up_ne _ _ (hc233.neT hc242 (by decide))]; exact hM_238
                have hM_249 : M_246 k1 = .inr (12, fs1) := by rw [eM_246, va_up_ne _ _ (ik1.neT hc242 (by decide))]; exact hM_239
                have hM_250 : M_246 v224 = .inl (cy 14, 120, .inl (f225)) := by rw [eM_246, va_up_ne _ _ (hc224.neT hc242 (by decide))]; exact hM_240
                obtain ⟨f_251, ef_251⟩ : ∃ f : Nat → Int64, f = vp_updL f244 ((nI v9w149) : Int32).toNatClampNeg f_243 := ⟨_, rfl⟩
                rw [← ef_251] at hM_247
                refine lv_lload hx hb dX13_looses_101 (lv_at hl 2 rfl) ?_
                refine lv_aload_n hx hb dX13_looses_103 rfl (lv_at hl 6 rfl) ?_
                refine pg_getN (D := D) (ci := 12) (v := .ref v233) (C := RX12) (T := TX12) (N := 51) hx hb hg inG12 hown hK hP ik1.1 hM_249 rfl 47 (by decide) (hN.use (Cond.fieldLinkNest RX13 301 RX12 "result" "[J" RX13) 56 rfl rfl) (fun _ h9 => h9) hv233 dX13_looses_104 ?_
                refine lv_iload hx hb dX13_looses_107 (lv_at hl 1 rfl) ?_
                refine pg_lald hx hb hK hP hc233.1 1 hM_248 rfl (inbN v9w149 120 (by omega) (by omega)) dX13_looses_109 ?_
                refine lv_topl (fun f_252 ef_252 => ?_)
                refine lv_lsub hx hb dX13_looses_110 ?_
                refine lv_topl (fun f_253 ef_253 => ?_)
                refine lv_lstore (lv' := [(7, .long f_253), (10, .long f_232), (9, .int (nI v9w149)), (5, .long v5w138), (3, .long f_134), (0, .ref za), (1, .ref k1), (2, .int (nI k2))]) hx hb dX13_looses_111 hl (by decide) rfl (fun ls hl => ?_)
                refine lv_iinc (v := (nI (v9w149 + 1))) (lv' := [(9, .int (nI (v9w149 + 1))), (7, .long f_253), (10, .long f_232), (5, .long v5w138), (3, .long f_134), (0, .ref za), (1, .ref k1), (2, .int (nI k2))]) hx hb dX13_looses_113 hl (k := 2) rfl (nI_1 v9w149) (by decide) rfl (fun ls hl => ?_)
                refine lv_goto (tgt := 59) hx hb dX13_looses_116 (by decide) ?_
                exact ih_147 f_253 (v9w149 + 1) M_246 H_245 _ _ (by omega) hM_249 (by omega) hW hF hG hV hP hD hS (lv_sub hl [0, 1, 3, 4, 5, 6, 7] rfl)
          exact key_146 (k2 - 0 + 1) f_134 0 M_141 H_142 _ _ (by omega) hM_143 (by omega) hW hF hG hV hP hD hS (lv_sub hl [0, 1, 2, 3, 4, 5, 6] rfl)
        · have hz := rfl (a := 0)
          have n_254 : ¬ (k2 ≤ v7w138) := fun q => c_144 ((iLE (a := k2) (b := v7w138) (by omega) (by omega)).mpr q)
          refine lv_lload hx hb dX13_looses_34 (lv_at hl 1 rfl) ?_
          refine lv_aload_n hx hb dX13_looses_36 rfl (lv_at hl 4 rfl) ?_
          obtain ⟨v255, hv255, hc255⟩ : ∃ v : Nat, fs1[45]? = some (.ref v : Value) ∧ isk K L v 46 120 := hl1 45 (by decide)
          refine pg_getN (D := D) (ci := 12) (v := .ref v255) (C := RX12) (T := TX12) (N := 51) hx hb hg inG12 hown hK hP ik1.1 hM_143 rfl 45 (by decide) (hN.use (Cond.fieldLinkNest RX13 268 RX12 "stretchDays" "[I" RX13) 54 rfl rfl) (fun _ h9 => h9) hv255 dX13_looses_37 ?_
          refine lv_iload hx hb dX13_looses_40 (lv_at hl 0 rfl) ?_
          obtain ⟨f256, hM256, hf256⟩ := hW.open_46 hc255
          have hi_257 : vp_in (nI v7w138) 120 := (inbN v7w138 120 (by omega) (by omega))
          refine pg_iald hx hb hK hP hc255.1 0 hM256 rfl hi_257 dX13_looses_42 ?_
          have hp_258 := hf256 _ (vp_lt hi_257)
          obtain ⟨c_259, hc_260, ec_261⟩ := hp_258
          rw [ec_261]
          have hy45 : (ax M k1 45) = f256 := (congrFun hV.2.2.1 45).symm.trans (ax_of hM_143 (by decide) hv255 hM256)
          have hc0 : v7w138 = 0 → 1 ≤ c_259 := fun z => by
            have h := hs
            have h2 := ec_261
            rw [nI_cl (by omega), z] at h2
            rw [hy45, h2, nI_toInt (by omega)] at h
            omega
          refine lv_i2l hx hb dX13_looses_43 rfl ?_
          refine lv_topl (fun f_262 ef_262 => ?_)
          refine lv_ladd hx hb dX13_looses_44 ?_
          refine lv_topl (fun f_263 ef_263 => ?_)
          refine lv_lstore (lv' := [(5, .long f_263), (7, .int (nI v7w138)), (3, .long f_134), (0, .ref za), (1, .ref k1), (2, .int (nI k2))]) hx hb dX13_looses_45 hl (by decide) rfl (fun ls hl => ?_)
          refine lv_iinc (v := (nI (v7w138 + 1))) (lv' := [(7, .int (nI (v7w138 + 1))), (5, .long f_263), (3, .long f_134), (0, .ref za), (1, .ref k1), (2, .int (nI k2))]) hx hb dX13_looses_47 hl (k := 1) rfl (nI_1 v7w138) (by decide) rfl (fun ls hl => ?_)
          refine lv_goto (tgt := 28) hx hb dX13_looses_50 (by decide) ?_
          exact ih_136 f_263 (v7w138 + 1) M_141 H_142 _ _ (by omega) hM_143 (by omega) (lsum hx_140 ef_262 ef_263 (by omega) hc0 (by omega)) hW hF hG hV hP hD hS (lv_sub hl [0, 1, 2, 3, 4, 5] rfl)
    exact key_135 (k2 - 0 + 1) 0 0 M s.heap _ _ (by omega) hM1 (by omega) (Or.inl ⟨rfl, rfl⟩) hW hF hG hV hP hD hS (lv_sub hl [0, 1, 2, 3, 4, 5] rfl)
/-- rows of three, up to n, as a list -/
def trip (o d s : Nat → Int32) (n : Nat) : List (Int32 × Int32 × Int32) := (List.range n).map (fun i => (o i, d i, s i))
def kpF (a b : Int32) (x : Int32 × Int32 × Int32) : Bool := !(decide (a ≤ x.2.1) && decide (x.2.1 ≤ b))
theorem trip_s (o d s : Nat → Int32) (n : Nat) : trip o d s (n + 1) = trip o d s n ++ [(o n, d n, s n)] := by
  unfold trip
  rw [List.range_succ, List.map_append]
  rfl
theorem trip_congr {o d s o' d' s' : Nat → Int32} {n : Nat} (h : ∀ i, i < n → o' i = o i ∧ d' i = d i ∧ s' i = s i) : trip o' d' s' n = trip o d s n := by
  induction n with
  | zero => rfl
  | succ n ih =>
    obtain ⟨h1, h2, h3⟩ := h n (by omega)
    rw [trip_s, trip_s, ih (fun i hi => h i (by omega)), h1, h2, h3]
theorem trip_upd {o d s : Nat → Int32} {k n : Nat} {a b c : Int32} (hk : k = n) : trip (upd o k a) (upd d k b) (upd s k c) (n + 1) = trip o d s n ++ [(a, b, c)] := by
  subst hk
  rw [trip_s, upd_self, upd_self, upd_self, trip_congr (o := o) (d := d) (s := s) (fun i hi => ⟨upd_ne _ _ (by omega), upd_ne _ _ (by omega), upd_ne _ _ (by omega)⟩)]
theorem stay_no {o d s p q r : Nat → Int32} {a b : Int32} {m n : Nat} (h : trip p q r m = (trip o d s n).filter (kpF a b)) (h1 : a ≤ d n) (h2 : d n ≤ b) : trip p q r m = (trip o d s (n + 1)).filter (kpF a b) := by
  rw [trip_s, List.filter_append, ← h]
  have : kpF a b (o n, d n, s n) = false := by simp [kpF, h1, h2]
  rw [List.filter_cons_of_neg (by rw [this]; decide), List.filter_nil, List.append_nil]
theorem stay_yes {o d s p q r : Nat → Int32} {a b : Int32} {k m n : Nat} {u v w : Int32} (h : trip p q r m = (trip o d s n).filter (kpF a b)) (hk : k = m) (h1 : ¬ (a ≤ d n ∧ d n ≤ b)) (hu : u = o n) (hv : v = d n) (hw : w = s n) : trip (upd p k u) (upd q k v) (upd r k w) (m + 1) = (trip o d s (n + 1)).filter (kpF a b) := by
  have : kpF a b (o n, d n, s n) = true := by
    by_cases z : a ≤ d n
    · have z2 : ¬ d n ≤ b := fun y => h1 ⟨z, y⟩
      simp [kpF, z2]
    · simp [kpF, z]
  rw [trip_upd hk, trip_s, List.filter_append, ← h, List.filter_cons_of_pos this, List.filter_nil, hu, hv, hw]
theorem stay_f {y g : Nat → Int32} {k m n : Nat} {v : Int32} (h : ∀ i : Nat, n ≤ i → g i = y i) (hk : k = m) (hm : m ≤ n) : ∀ i : Nat, n + 1 ≤ i → upd g k v i = y i := fun i hi => by
  rw [upd_ne _ _ (by omega)]
  exact h i (by omega)
theorem va_up_9 {α : Type} (y : Nat → α) (a b c d e f : α) : va_up (va_up (va_up (va_up (va_up (va_up y 38 a) 39 b) 40 c) 38 d) 39 e) 40 f = va_up (va_up (va_up y 38 d) 39 e) 40 f := by
  funext j
  by_cases h : j = 40
  · subst h
    rw [va_up_self, va_up_self]
  · rw [va_up_ne _ _ h, va_up_ne _ _ h]
    by_cases h2 : j = 39
    · subst h2
      rw [va_up_self, va_up_self]
    · rw [va_up_ne _ _ h2, va_up_ne _ _ h2]
      by_cases h3 : j = 38
      · subst h3
        rw [va_up_self, va_up_self]
      · rw [va_up_ne _ _ h3, va_up_ne _ _ h3, va_up_ne _ _ h, va_up_ne _ _ h2, va_up_ne _ _ h3]
set_option maxHeartbeats 4000000 in
set_option maxRecDepth 100000 in
theorem r_settled2 (l : Launch) (D : va_G) (cy : Nat → ClassId) (K : Kp) (L : List Nat) (M : Hp) (sz : Nat) (k1 : Nat) (k2 : Int32) (k3 : Int32) (hW : WOM cy K L M) (ik1 : isk K L k1 12 0) (hO : OWN K L M) : Met l yX13_settled (wsM yX13_settled cX13_settled 5 none) ({ frames := 0, cells := 0, slots := 0, locals := 0 }) (va_Pc [.ref k1, .int k2, .int k3] (PG D cy [] L M sz)) (va_Qv (fun (M9 : Hp) => WOM cy K L M9 ∧ fr K L [12, 15, 79, 80, 81, 87] M M9 ∧ fG K L [8, 14] M M9 ∧ (∃ (n9 : Nat) (p9 q9 r9 : Nat → Int32) (n8 : Nat), fx M k1 14 = (n8 : Int) ∧ n9 ≤ n8 ∧ trip p9 q9 r9 n9 = (trip (ax M k1 38) (ax M k1 39) (ax M k1 40) n8).filter (kpF k2 k3) ∧ VW K L M M9 k1 (va_up (fx M k1) 14 ((n9 : Nat) : Int)) (va_up (va_up (va_up (ax M k1) 38 p9) 39 q9) 40 r9)) ∧ (True)) (fun M9 t => PQ D [] L M9 (va_A ([] ++ va_pl L M) sz) t) (va_A ([] ++ va_pl L M) sz)) 0 0 (va_A ([] ++ va_pl L M) sz) := by
  refine Met.ofW (cc := cX13_settled) (maxL := 5) (ret := none) (by decide) rfl ?_
  intro p e s m args below meth c s₁ B hml hv
  obtain ⟨rfl, hsz, hP, hK, hD0, hN⟩ := hv
  have hx := B.exec
  have hb := B.bytes
  have hr := B.returns
  have hts := atoms_spec (ws := (wsM yX13_settled cX13_settled 5 none)) B.pre
  have hg : ∀ w ∈ lw_good, w.before _ s = true := fun w h => hts w (List.mem_cons_of_mem _ h)
  have hown : s.vm.findClass RX13 = some m.cls := findClass_of_methodNamed B.named
  have hlocks := B.notSynchronized
  subst hsz
  have hD := hD0.self (sz := s.heap.size)
  generalize hAe : va_A ([] ++ va_pl L M) s.heap.size = A at hD ⊢
  have hA : ∀ q : Nat, s.heap.size ≤ q → A q := fun q h => by rw [← hAe]; exact Or.inr h
  have hS : va_S A s.heap s.heap [] := va_S.rf
  have hl := lv_entry ([.ref k1, .int k2, .int k3]) (n := 5) (Nat.le_of_ble_eq_true rfl)
  rw [lg_entry_eq]
  generalize (lg_sl ([.ref k1, .int k2, .int k3]) ++ List.replicate (5 - (lg_sl ([.ref k1, .int k2, .int k3])).length) Slot.unset).toArray = ls at hl ⊢
  refine W.nameQ (fun Q hQ => ?_)
  refine W.nameR (fun R hR => ?_)
  have hRf : 0 ≤ R.frames := by rw [hR]; exact Nat.le_of_ble_eq_true rfl
  have hRl : 0 ≤ R.locals := by rw [hR]; exact Nat.le_of_ble_eq_true rfl
  have hRc : 0 ≤ R.cells := by rw [hR]; exact Nat.le_of_ble_eq_true rfl
  have hRs : 0 ≤ R.slots := by rw [hR]; exact Nat.le_of_ble_eq_true rfl
  have hF : fr K L [12, 15, 79, 80, 81, 87] M M := fr.rf
  have hG : fG K L [8, 14] M M := fG.rf
  have hl : lv_has ls 5 [(0, .ref k1), (1, .int k2), (2, .int k3)] := hl
  have hW0 := hW
  have hV : VW K L M M k1 (fx M k1) (ax M k1) := VW.rf k1 hO
  refine lv_iconst (v := 0) hx hb dX13_settled_0 (by decide) ?_
  refine lv_istore_n (lv' := [(3, .int 0), (0, .ref k1), (1, .int k2), (2, .int k3)]) hx hb dX13_settled_1 rfl hl (by decide) rfl (fun ls hl => ?_)
  refine lv_iconst (v := 0) hx hb dX13_settled_2 (by decide) ?_
  obtain ⟨fs1, hM1, hn1, hl1⟩ := hW.open_12 ik1
  obtain ⟨v2, hv2, hc2⟩ : ∃ v : Nat, fs1[14]? = some (.int (nI v) : Value) ∧ v ≤ 120 := hl1 14 (by decide)
  have hx14 : (fx M k1 14) = ((v2 : Nat) : Int) := (congrFun hV.2.1 14).symm.trans ((fx_of hM1 rfl hv2).trans (nI_toInt (by omega)))
  refine lv_istore (lv' := [(4, .int 0), (3, .int 0), (0, .ref k1), (1, .int k2), (2, .int k3)]) hx hb dX13_settled_3 hl (by decide) rfl (fun ls hl => ?_)
  have key_3 : ∀ (fu_5 : Nat) (v3w6 : Nat) (v4w6 : Nat) (gpw6 : Nat → Int32) (gqw6 : Nat → Int32) (grw6 : Nat → Int32) (M_14 : Hp) (H_15 : Heap) (locs : List Loc) (ls : Array Slot), 120 - v4w6 < fu_5 → M_14 k1 = .inr (12, fs1) → v3w6 ≤ v4w6 → v4w6 ≤ 120 → ((v4w6 : Nat) : Int) ≤ fx M k1 14 → (∀ i : Nat, v4w6 ≤ i → gpw6 i = ax M k1 38 i) → (∀ i : Nat, v4w6 ≤ i → gqw6 i = ax M k1 39 i) → (∀ i : Nat, v4w6 ≤ i → grw6 i = ax M k1 40 i) → trip gpw6 gqw6 grw6 v3w6 = (trip (ax M k1 38) (ax M k1 39) (ax M k1 40) v4w6).filter (kpF k2 k3) → WOM cy K L M_14 → fr K L [12, 15, 79, 80, 81, 87] M M_14 → fG K L [8, 14] M M_14 → VW K L M M_14 k1 (fx M k1) (va_up (va_up (va_up (ax M k1) 38 gpw6) 39 gqw6) 40 grw6) → va_P D vwCl ([] ++ va_pl L M_14) H_15 → va_D A ([] ++ va_pl L M_14) → va_S A s.heap H_15 locs → lv_has ls 5 [(4, .int (nI v4w6)), (3, .int (nI v3w6)), (0, .ref k1), (1, .int k2), (2, .int k3)] → W p l e R s m ([.ref k1, .int k2, .int k3] : List Value).toArray below meth c H_15 locs 0 0 Q (F0 m 5 ls []) := by
    intro fu_5
    induction fu_5 with
    | zero => intro v3w6 v4w6 gpw6 gqw6 grw6 M_14 H_15 locs ls h; exact absurd h (Nat.not_lt_zero _)
    | succ fu_5 ih_4 =>
      intro v3w6 v4w6 gpw6 gqw6 grw6 M_14 H_15 locs ls hfu hM_16 hx_7 hx_8 hx_9 hx_10 hx_11 hx_12 hx_13 hW hF hG hV hP hD hS hl
      refine lv_iload hx hb dX13_settled_5 (lv_at hl 0 rfl) ?_
      refine lv_aload_n hx hb dX13_settled_7 rfl (lv_at hl 2 rfl) ?_
      refine pg_getN (D := D) (ci := 12) (v := .int (nI v2)) (C := RX12) (T := TX12) (N := 51) hx hb hg inG12 hown hK hP ik1.1 hM_16 rfl 14 (by decide) (hN.use (Cond.fieldLinkNest RX13 193 RX12 "moves" "I" RX13) 23 rfl rfl) (fun _ h9 => h9) hv2 dX13_settled_8 ?_
      refine lv_icmp_ge (tgt := 110) hx hb dX13_settled_11 (by decide) (fun c_17 => ?_) (fun c_17 => ?_)
      · have hz := rfl (a := 0)
        have n_18 : v2 ≤ v4w6 := (iLE (a := v2) (b := v4w6) (by omega) (by omega)).mp c_17
        have hx14 : (fx M k1 14) = ((v2 : Nat) : Int) := (congrFun hV.2.1 14).symm.trans ((fx_of hM_16 rfl hv2).trans (nI_toInt (by omega)))
        have hb14 := hx14
        refine lv_aload_n hx hb dX13_settled_110 rfl (lv_at hl 2 rfl) ?_
        refine lv_iload_n hx hb dX13_settled_111 rfl (lv_at hl 1 rfl) ?_
        refine pg_putN (D := D) (ci := 12) (v := .int (nI v3w6)) (ty := .int) (C := RX12) (T := TX12) (N := 51) hx hb hg inG12 tyX12 tyX12_ok nmX12 hown hK hP hD hS ik1.1 hM_16 rfl 14 (by decide) (hN.use (Cond.fieldLinkNest RX13 193 RX12 "moves" "I" RX13) 23 rfl rfl) (fun _ h9 => h9) rfl (by decide +kernel) rfl rfl (by rw [hn1]; decide) dX13_settled_112 (fun H_19 locs hP hD hS => ?_)
        have hs_22 : (fs1.set 14 (.int (nI v3w6)))[14]? = some (.int (nI v3w6)) := List.getElem?_set_self (by rw [hn1]; decide)
        have hk_21 := fld12_set (k := 14) (w := .int (nI v3w6)) hl1 (show fld12 K L 14 (fs1.set 14 (.int (nI v3w6))) from ⟨v3w6, hs_22, by omega⟩)
        have hn_23 : (fs1.set 14 (.int (nI v3w6))).length = 51 := by rw [List.length_set]; exact hn1
        have hb_24 : v3w6 ≤ 120 := by omega
        obtain ⟨M_25, eM_25⟩ : ∃ M1 : Hp, M1 = va_up M_14 k1 (.inr (12, fs1.set 14 (.int (nI v3w6)))) := ⟨_, rfl⟩
        have hx14 : (fx M k1 14) = ((v2 : Nat) : Int) := (congrFun hV.2.1 14).symm.trans ((fx_of hM_16 rfl hv2).trans (nI_toInt (by omega)))
        have hV : VW K L M M_25 k1 (va_up (fx M k1) 14 ((v3w6 : Nat) : Int)) (va_up (va_up (va_up (ax M k1) 38 gpw6) 39 gqw6) 40 grw6) := by rw [eM_25]; exact hV.put hW ik1 hM_16 hn1 rfl (by decide) rfl (nI_toInt (by omega))
        have hP : va_P D vwCl ([] ++ va_pl L M_25) H_19 := by rw [eM_25]; exact hP
        have hD : va_D A ([] ++ va_pl L M_25) := by rw [eM_25]; exact hD
        have hW : WOM cy K L M_25 := by rw [eM_25]; exact hW.up_12 ik1 ⟨_, rfl, hn_23, hk_21⟩
        have hF : fr K L [12, 15, 79, 80, 81, 87] M M_25 := by rw [eM_25]; exact hF.up ik1 (by decide)
        have hG : fG K L [8, 14] M M_25 := by rw [eM_25]; exact hG.up hM_16 (by decide)
        have hM_26 : M_25 k1 = .inr (12, fs1.set 14 (.int (nI v3w6))) := by rw [eM_25]; exact va_up_self _ _ _
        refine lv_iconst (v := 0) hx hb dX13_settled_115 (by decide) ?_
        refine lv_istore (lv' := [(4, .int 0), (3, .int (nI v3w6)), (0, .ref k1), (1, .int k2), (2, .int k3)]) hx hb dX13_settled_116 hl (by decide) rfl (fun ls hl => ?_)
        have key_27 : ∀ (fu_29 : Nat) (v4w30 : Nat) (M_32 : Hp) (H_33 : Heap) (locs : List Loc) (ls : Array Slot), 24 - v4w30 < fu_29 → v4w30 ≤ 24 → WOM cy K L M_32 → fr K L [12, 15, 79, 80, 81, 87] M M_32 → fG K L [8, 14] M M_32 → VW K L M M_32 k1 (va_up (fx M k1) 14 ((v3w6 : Nat) : Int)) (va_up (va_up (va_up (ax M k1) 38 gpw6) 39 gqw6) 40 grw6) → va_P D vwCl ([] ++ va_pl L M_32) H_33 → va_D A ([] ++ va_pl L M_32) → va_S A s.heap H_33 locs → lv_has ls 5 [(4, .int (nI v4w30)), (3, .int (nI v3w6)), (0, .ref k1), (1, .int k2), (2, .int k3)] → W p l e R s m ([.ref k1, .int k2, .int k3] : List Value).toArray below meth c H_33 locs 0 0 Q (F0 m 118 ls []) := by
          intro fu_29
          induction fu_29 with
          | zero => intro v4w30 M_32 H_33 locs ls h; exact absurd h (Nat.not_lt_zero _)
          | succ fu_29 ih_28 =>
            intro v4w30 M_32 H_33 locs ls hfu hx_31 hW hF hG hV hP hD hS hl
            refine lv_iload hx hb dX13_settled_118 (lv_at hl 0 rfl) ?_
            refine lv_aload_n hx hb dX13_settled_120 rfl (lv_at hl 2 rfl) ?_
            obtain ⟨fs34, hM34, hn34, hl34⟩ := hW.open_12 ik1
            obtain ⟨v35, hv35, hc35⟩ : ∃ v : Nat, fs34[10]? = some (.int (nI v) : Value) ∧ v ≤ 24 := hl34 10 (by decide)
            refine pg_getN (D := D) (ci := 12) (v := .int (nI v35)) (C := RX12) (T := TX12) (N := 51) hx hb hg inG12 hown hK hP ik1.1 hM34 rfl 10 (by decide) (hN.use (Cond.fieldLinkNest RX13 68 RX12 "tenures" "I" RX13) 19 rfl rfl) (fun _ h9 => h9) hv35 dX13_settled_121 ?_
            refine lv_icmp_ge (tgt := 150) hx hb dX13_settled_124 (by decide) (fun c_36 => ?_) (fun c_36 => ?_)
            · have hz := rfl (a := 0)
              have n_37 : v35 ≤ v4w30 := (iLE (a := v35) (b := v4w30) (by omega) (by omega)).mp c_36
              refine lv_iconst (v := 0) hx hb dX13_settled_150 (by decide) ?_
              refine lv_istore (lv' := [(4, .int 0), (3, .int (nI v3w6)), (0, .ref k1), (1, .int k2), (2, .int k3)]) hx hb dX13_settled_151 hl (by decide) rfl (fun ls hl => ?_)
              have key_38 : ∀ (fu_40 : Nat) (v4w41 : Nat) (M_43 : Hp) (H_44 : Heap) (locs : List Loc) (ls : Array Slot), 120 - v4w41 < fu_40 → v4w41 ≤ 120 → WOM cy K L M_43 → fr K L [12, 15, 79, 80, 81, 87] M M_43 → fG K L [8, 14] M M_43 → VW K L M M_43 k1 (va_up (fx M k1) 14 ((v3w6 : Nat) : Int)) (va_up (va_up (va_up (ax M k1) 38 gpw6) 39 gqw6) 40 grw6) → va_P D vwCl ([] ++ va_pl L M_43) H_44 → va_D A ([] ++ va_pl L M_43) → va_S A s.heap H_44 locs → lv_has ls 5 [(4, .int (nI v4w41)), (3, .int (nI v3w6)), (0, .ref k1), (1, .int k2), (2, .int k3)] → W p l e R s m ([.ref k1, .int k2, .int k3] : List Value).toArray below meth c H_44 locs 0 0 Q (F0 m 153 ls []) := by
                intro fu_40
                induction fu_40 with
                | zero => intro v4w41 M_43 H_44 locs ls h; exact absurd h (Nat.not_lt_zero _)
                | succ fu_40 ih_39 =>
                  intro v4w41 M_43 H_44 locs ls hfu hx_42 hW hF hG hV hP hD hS hl
                  refine lv_iload hx hb dX13_settled_153 (lv_at hl 0 rfl) ?_
                  refine lv_aload_n hx hb dX13_settled_155 rfl (lv_at hl 2 rfl) ?_
                  obtain ⟨fs45, hM45, hn45, hl45⟩ := hW.open_12 ik1
                  obtain ⟨v46, hv46, hc46⟩ : ∃ v : Nat, fs45[17]? = some (.int (nI v) : Value) ∧ v ≤ 120 := hl45 17 (by decide)
                  refine pg_getN (D := D) (ci := 12) (v := .int (nI v46)) (C := RX12) (T := TX12) (N := 51) hx hb hg inG12 hown hK hP ik1.1 hM45 rfl 17 (by decide) (hN.use (Cond.fieldLinkNest RX13 256 RX12 "stretches" "I" RX13) 26 rfl rfl) (fun _ h9 => h9) hv46 dX13_settled_156 ?_
                  refine lv_icmp_ge (tgt := 184) hx hb dX13_settled_159 (by decide) (fun c_47 => ?_) (fun c_47 => ?_)
                  · have hz := rfl (a := 0)
                    have n_48 : v46 ≤ v4w41 := (iLE (a := v46) (b := v4w41) (by omega) (by omega)).mp c_47
                    rw [hQ]
                    exact W.vret hx hb hr (fun t ht hW9 => ⟨⟨M_43, rfl, ⟨hW, hF, hG, ⟨_, _, _, _, _, hb14, by omega, (by have h := hx_13; rw [show v4w6 = v2 from by omega] at h; exact h), hV⟩, trivial⟩, ⟨by rw [ht]; exact hP, hD⟩⟩, hS.F ht⟩) hS.2.2 dX13_settled_184
                  · have hz := rfl (a := 0)
                    have n_49 : ¬ (v46 ≤ v4w41) := fun q => c_47 ((iLE (a := v46) (b := v4w41) (by omega) (by omega)).mpr q)
                    refine lv_aload_n hx hb dX13_settled_162 rfl (lv_at hl 2 rfl) ?_
                    refine lv_dup hx hb dX13_settled_163 rfl ?_
                    obtain ⟨v50, hv50⟩ : ∃ v : Int64, fs45[8]? = some (.long v : Value) := hl45 8 (by decide)
                    refine pg_getN (D := D) (ci := 12) (v := .long v50) (C := RX12) (T := TX12) (N := 51) hx hb hg inG12 hown hK hP ik1.1 hM45 rfl 8 (by decide) (hN.use (Cond.fieldLinkNest RX13 364 RX12 "nobody" "J" RX13) 17 rfl rfl) (fun _ h9 => h9) hv50 dX13_settled_164 ?_
                    refine lv_aload_n hx hb dX13_settled_167 rfl (lv_at hl 2 rfl) ?_
                    obtain ⟨v51, hv51, hc51⟩ : ∃ v : Nat, fs45[48]? = some (.ref v : Value) ∧ isk K L v 94 120 := hl45 48 (by decide)
                    refine pg_getN (D := D) (ci := 12) (v := .ref v51) (C := RX12) (T := TX12) (N := 51) hx hb hg inG12 hown hK hP ik1.1 hM45 rfl 48 (by decide) (hN.use (Cond.fieldLinkNest RX13 304 RX12 "none" "[J" RX13) 57 rfl rfl) (fun _ h9 => h9) hv51 dX13_settled_168 ?_
                    refine lv_iload hx hb dX13_settled_171 (lv_at hl 0 rfl) ?_
                    obtain ⟨f52, hM52⟩ := hW.open_94 hc51
                    refine pg_lald hx hb hK hP hc51.1 1 hM52 rfl (inbN v4w41 120 (by omega) (by omega)) dX13_settled_173 ?_
                    refine lv_topl (fun f_53 ef_53 => ?_)
                    refine lv_ladd hx hb dX13_settled_174 ?_
                    refine lv_topl (fun f_54 ef_54 => ?_)
                    refine pg_putN (D := D) (ci := 12) (v := .long f_54) (ty := .long) (C := RX12) (T := TX12) (N := 51) hx hb hg inG12 tyX12 tyX12_ok nmX12 hown hK hP hD hS ik1.1 hM45 rfl 8 (by decide) (hN.use (Cond.fieldLinkNest RX13 364 RX12 "nobody" "J" RX13) 17 rfl rfl) (fun _ h9 => h9) rfl (by decide +kernel) rfl rfl (by rw [hn45]; decide) dX13_settled_175 (fun H_55 locs hP hD hS => ?_)
                    have hs_58 : (fs45.set 8 (.long f_54))[8]? = some (.long f_54) := List.getElem?_set_self (by rw [hn45]; decide)
                    have hk_57 := fld12_set (k := 8) (w := .long f_54) hl45 (show fld12 K L 8 (fs45.set 8 (.long f_54)) from ⟨f_54, hs_58⟩)
                    have hn_59 : (fs45.set 8 (.long f_54)).length = 51 := by rw [List.length_set]; exact hn45
                    have hv_60 : (fs45.set 8 (.long f_54))[17]? = some (.int (nI v46)) := by rw [List.getElem?_set_ne (by decide)]; exact hv46
                    have hv_61 : (fs45.set 8 (.long f_54))[48]? = some (.ref v51) := by rw [List.getElem?_set_ne (by decide)]; exact hv51
                    obtain ⟨M_62, eM_62⟩ : ∃ M1 : Hp, M1 = va_up M_43 k1 (.inr (12, fs45.set 8 (.long f_54))) := ⟨_, rfl⟩
                    have hV : VW K L M M_62 k1 (va_up (fx M k1) 14 ((v3w6 : Nat) : Int)) (va_up (va_up (va_up (ax M k1) 38 gpw6) 39 gqw6) 40 grw6) := by rw [eM_62]; exact hV.put0 hW ik1 hM45 rfl rfl
                    have hP : va_P D vwCl ([] ++ va_pl L M_62) H_55 := by rw [eM_62]; exact hP
                    have hD : va_D A ([] ++ va_pl L M_62) := by rw [eM_62]; exact hD
                    have hW : WOM cy K L M_62 := by rw [eM_62]; exact hW.up_12 ik1 ⟨_, rfl, hn_59, hk_57⟩
                    have hF : fr K L [12, 15, 79, 80, 81, 87] M M_62 := by rw [eM_62]; exact hF.up ik1 (by decide)
                    have hG : fG K L [8, 14] M M_62 := by rw [eM_62]; exact hG.up hM45 (by decide)
                    have hM_63 : M_62 k1 = .inr (12, fs45.set 8 (.long f_54)) := by rw [eM_62]; exact va_up_self _ _ _
                    have hM_64 : M_62 v51 = .inl (cy 15, 120, .inr (.inl (f52))) := by rw [eM_62, va_up_ne _ _ (hc51.neT ik1 (by decide))]; exact hM52
                    refine lv_iinc (v := (nI (v4w41 + 1))) (lv' := [(4, .int (nI (v4w41 + 1))), (3, .int (nI v3w6)), (0, .ref k1), (1, .int k2), (2, .int k3)]) hx hb dX13_settled_178 hl (k := 0) rfl (nI_1 v4w41) (by decide) rfl (fun ls hl => ?_)
                    refine lv_goto (tgt := 153) hx hb dX13_settled_181 (by decide) ?_
                    exact ih_39 (v4w41 + 1) M_62 H_55 _ _ (by omega) (by omega) hW hF hG hV hP hD hS (lv_sub hl [0, 1, 2, 3, 4] rfl)
              exact key_38 (120 - 0 + 1) 0 M_32 H_33 _ _ (by omega) (by omega) hW hF hG hV hP hD hS (lv_sub hl [0, 1, 2, 3, 4] rfl)
            · have hz := rfl (a := 0)
              have n_65 : ¬ (v35 ≤ v4w30) := fun q => c_36 ((iLE (a := v35) (b := v4w30) (by omega) (by omega)).mpr q)
              refine lv_aload_n hx hb dX13_settled_127 rfl (lv_at hl 2 rfl) ?_
              obtain ⟨v66, hv66, hc66⟩ : ∃ v : Nat, fs34[27]? = some (.ref v : Value) ∧ isk K L v 87 24 := hl34 27 (by decide)
              refine pg_getN (D := D) (ci := 12) (v := .ref v66) (C := RX12) (T := TX12) (N := 51) hx hb hg inG12 hown hK hP ik1.1 hM34 rfl 27 (by decide) (hN.use (Cond.fieldLinkNest RX13 307 RX12 "credit" "[J" RX13) 36 rfl rfl) (fun _ h9 => h9) hv66 dX13_settled_128 ?_
              refine lv_iload hx hb dX13_settled_131 (lv_at hl 0 rfl) ?_
              refine lv_dup2_11 hx hb dX13_settled_133 rfl rfl ?_
              obtain ⟨f67, hM67⟩ := hW.open_87 hc66
              refine pg_lald hx hb hK hP hc66.1 1 hM67 rfl (inbN v4w30 24 (by omega) (by omega)) dX13_settled_134 ?_
              refine lv_topl (fun f_68 ef_68 => ?_)
              refine lv_aload_n hx hb dX13_settled_135 rfl (lv_at hl 2 rfl) ?_
              obtain ⟨v69, hv69, hc69⟩ : ∃ v : Nat, fs34[33]? = some (.ref v : Value) ∧ isk K L v 92 24 := hl34 33 (by decide)
              refine pg_getN (D := D) (ci := 12) (v := .ref v69) (C := RX12) (T := TX12) (N := 51) hx hb hg inG12 hown hK hP ik1.1 hM34 rfl 33 (by decide) (hN.use (Cond.fieldLinkNest RX13 259 RX12 "dues" "[J" RX13) 42 rfl rfl) (fun _ h9 => h9) hv69 dX13_settled_136 ?_
              refine lv_iload hx hb dX13_settled_139 (lv_at hl 0 rfl) ?_
              obtain ⟨f70, hM70⟩ := hW.open_92 hc69
              refine pg_lald hx hb hK hP hc69.1 1 hM70 rfl (inbN v4w30 24 (by omega) (by omega)) dX13_settled_141 ?_
              refine lv_topl (fun f_71 ef_71 => ?_)
              refine lv_ladd hx hb dX13_settled_142 ?_
              refine lv_topl (fun f_72 ef_72 => ?_)
              refine pg_last hx hb hK hP hD hS hc66.1 1 hM67 rfl (inbN v4w30 24 (by omega) (by omega)) dX13_settled_143 (fun H_73 locs hP hD hS => ?_)
              obtain ⟨M_74, eM_74⟩ : ∃ M1 : Hp, M1 = va_up M_32 v66 (.inl (cy 15, 24, .inr (.inl (vp_updL f67 ((nI v4w30) : Int32).toNatClampNeg f_72)))) := ⟨_, rfl⟩
              have hV : VW K L M M_74 k1 (va_up (fx M k1) 14 ((v3w6 : Nat) : Int)) (va_up (va_up (va_up (ax M k1) 38 gpw6) 39 gqw6) 40 grw6) := by rw [eM_74]; exact hV.oth hW ik1 hc66 (by decide)
              have hP : va_P D vwCl ([] ++ va_pl L M_74) H_73 := by rw [eM_74]; exact hP
              have hD : va_D A ([] ++ va_pl L M_74) := by rw [eM_74]; exact hD
              have hW : WOM cy K L M_74 := by rw [eM_74]; exact hW.up_87 hc66 ⟨_, rfl⟩
              have hF : fr K L [12, 15, 79, 80, 81, 87] M M_74 := by rw [eM_74]; exact hF.up hc66 (by decide)
              have hG : fG K L [8, 14] M M_74 := by rw [eM_74]; exact hG.arr hc66 (by decide)
              have hM_75 : M_74 v66 = .inl (cy 15, 24, .inr (.inl (vp_updL f67 ((nI v4w30) : Int32).toNatClampNeg f_72))) := by rw [eM_74]; exact va_up_self _ _ _
              have hM_76 : M_74 k1 = .inr (12, fs34) := by rw [eM_74, va_up_ne _ _ (ik1.neT hc66 (by decide))]; exact hM34
              have hM_77 : M_74 v69 = .inl (cy 15, 24, .inr (.inl (f70))) := by rw [eM_74, va_up_ne _ _ (hc69.neT hc66 (by decide))]; exact hM70
              obtain ⟨f_78, ef_78⟩ : ∃ f : Nat → Int64, f = vp_updL f67 ((nI v4w30) : Int32).toNatClampNeg f_72 := ⟨_, rfl⟩
              rw [← ef_78] at hM_75
              refine lv_iinc (v := (nI (v4w30 + 1))) (lv' := [(4, .int (nI (v4w30 + 1))), (3, .int (nI v3w6)), (0, .ref k1), (1, .int k2), (2, .int k3)]) hx hb dX13_settled_144 hl (k := 0) rfl (nI_1 v4w30) (by decide) rfl (fun ls hl => ?_)
              refine lv_goto (tgt := 118) hx hb dX13_settled_147 (by decide) ?_
              exact ih_28 (v4w30 + 1) M_74 H_73 _ _ (by omega) (by omega) hW hF hG hV hP hD hS (lv_sub hl [0, 1, 2, 3, 4] rfl)
        exact key_27 (24 - 0 + 1) 0 M_25 H_19 _ _ (by omega) (by omega) hW hF hG hV hP hD hS (lv_sub hl [0, 1, 2, 3, 4] rfl)
      · have hz := rfl (a := 0)
        have n_79 : ¬ (v2 ≤ v4w6) := fun q => c_17 ((iLE (a := v2) (b := v4w6) (by omega) (by omega)).mpr q)
        have hx14 : (fx M k1 14) = ((v2 : Nat) : Int) := (congrFun hV.2.1 14).symm.trans ((fx_of hM_16 rfl hv2).trans (nI_toInt (by omega)))
        refine lv_aload_n hx hb dX13_settled_14 rfl (lv_at hl 2 rfl) ?_
        obtain ⟨v80, hv80, hc80⟩ : ∃ v : Nat, fs1[39]? = some (.ref v : Value) ∧ isk K L v 80 120 := hl1 39 (by decide)
        refine pg_getN (D := D) (ci := 12) (v := .ref v80) (C := RX12) (T := TX12) (N := 51) hx hb hg inG12 hown hK hP ik1.1 hM_16 rfl 39 (by decide) (hN.use (Cond.fieldLinkNest RX13 199 RX12 "moveDay" "[I" RX13) 48 rfl rfl) (fun _ h9 => h9) hv80 dX13_settled_15 ?_
        refine lv_iload hx hb dX13_settled_18 (lv_at hl 0 rfl) ?_
        obtain ⟨f81, hM81⟩ := hW.open_80 hc80
        refine pg_iald hx hb hK hP hc80.1 0 hM81 rfl (inbN v4w6 120 (by omega) (by omega)) dX13_settled_20 ?_
        refine lv_topi (fun f_82 ef_82 => ?_)
        have hy39 : gqw6 = f81 := (congrFun hV.2.2.1 39).symm.trans (ax_of hM_16 (by decide) hv80 hM81)
        have hdv1 : f_82 = ax M k1 39 v4w6 := by
          rw [← hx_11 v4w6 (by omega)]
          have h9 : gqw6 (nI v4w6).toNatClampNeg = f_82 := by rw [hy39]; exact ef_82.symm
          rw [nI_cl (by omega)] at h9
          exact h9.symm
        refine lv_iload_n hx hb dX13_settled_21 rfl (lv_at hl 3 rfl) ?_
        refine lv_icmp_lt (tgt := 62) hx hb dX13_settled_22 (by decide) (fun c_83 => ?_) (fun c_83 => ?_)
        · have hz := rfl (a := 0)
          refine lv_aload_n hx hb dX13_settled_62 rfl (lv_at hl 2 rfl) ?_
          obtain ⟨v84, hv84, hc84⟩ : ∃ v : Nat, fs1[38]? = some (.ref v : Value) ∧ isk K L v 79 120 := hl1 38 (by decide)
          refine pg_getN (D := D) (ci := 12) (v := .ref v84) (C := RX12) (T := TX12) (N := 51) hx hb hg inG12 hown hK hP ik1.1 hM_16 rfl 38 (by decide) (hN.use (Cond.fieldLinkNest RX13 196 RX12 "moveOf" "[I" RX13) 47 rfl rfl) (fun _ h9 => h9) hv84 dX13_settled_63 ?_
          refine lv_iload_n hx hb dX13_settled_66 rfl (lv_at hl 1 rfl) ?_
          refine lv_aload_n hx hb dX13_settled_67 rfl (lv_at hl 2 rfl) ?_
          refine pg_getN (D := D) (ci := 12) (v := .ref v84) (C := RX12) (T := TX12) (N := 51) hx hb hg inG12 hown hK hP ik1.1 hM_16 rfl 38 (by decide) (hN.use (Cond.fieldLinkNest RX13 196 RX12 "moveOf" "[I" RX13) 47 rfl rfl) (fun _ h9 => h9) hv84 dX13_settled_68 ?_
          refine lv_iload hx hb dX13_settled_71 (lv_at hl 0 rfl) ?_
          obtain ⟨f85, hM85, hf85⟩ := hW.open_79 hc84
          have hi_86 : vp_in (nI v4w6) 120 := (inbN v4w6 120 (by omega) (by omega))
          refine pg_iald hx hb hK hP hc84.1 0 hM85 rfl hi_86 dX13_settled_73 ?_
          have hp_87 := hf85 _ (vp_lt hi_86)
          obtain ⟨c_88, hc_89, ec_90⟩ := hp_87
          rw [ec_90]
          have hy38 : gpw6 = f85 := (congrFun hV.2.2.1 38).symm.trans (ax_of hM_16 (by decide) hv84 hM85)
          have hu9 : (nI c_88) = ax M k1 38 v4w6 := by
            rw [← hx_10 v4w6 (by omega)]
            have h9 : gpw6 (nI v4w6).toNatClampNeg = (nI c_88) := by rw [hy38]; exact ec_90
            rw [nI_cl (by omega)] at h9
            exact h9.symm
          refine pg_iast hx hb hK hP hD hS hc84.1 0 hM85 rfl (inbN v3w6 120 (by omega) (by omega)) dX13_settled_74 (fun H_91 locs hP hD hS => ?_)
          obtain ⟨M_92, eM_92⟩ : ∃ M1 : Hp, M1 = va_up M_14 v84 (.inl (cy 14, 120, .inl (upd f85 ((nI v3w6) : Int32).toNatClampNeg (nI c_88)))) := ⟨_, rfl⟩
          have hy38 : gpw6 = f85 := (congrFun hV.2.2.1 38).symm.trans (ax_of hM_16 (by decide) hv84 hM85)
          have hV : VW K L M M_92 k1 (fx M k1) (va_up (va_up (va_up (va_up (ax M k1) 38 gpw6) 39 gqw6) 40 grw6) 38 (upd gpw6 ((nI v3w6) : Int32).toNatClampNeg (nI c_88))) := by rw [eM_92]; exact hV.ast (j := 38) hW ik1 hM_16 (by decide) hv84 hc84 hM85
          have hP : va_P D vwCl ([] ++ va_pl L M_92) H_91 := by rw [eM_92]; exact hP
          have hD : va_D A ([] ++ va_pl L M_92) := by rw [eM_92]; exact hD
          have hW : WOM cy K L M_92 := by rw [eM_92]; exact hW.up_79 hc84 ⟨_, rfl, (updP (P := fun z => ∃ c : Nat, c < 24 ∧ z = nI c) hf85 ⟨c_88, by omega, rfl⟩)⟩
          have hF : fr K L [12, 15, 79, 80, 81, 87] M M_92 := by rw [eM_92]; exact hF.up hc84 (by decide)
          have hG : fG K L [8, 14] M M_92 := by rw [eM_92]; exact hG.arr hc84 (by decide)
          have hM_93 : M_92 v84 = .inl (cy 14, 120, .inl (upd f85 ((nI v3w6) : Int32).toNatClampNeg (nI c_88))) := by rw [eM_92]; exact va_up_self _ _ _
          have hM_94 : M_92 k1 = .inr (12, fs1) := by rw [eM_92, va_up_ne _ _ (ik1.neT hc84 (by decide))]; exact hM_16
          have hM_95 : M_92 v80 = .inl (cy 14, 120, .inl (f81)) := by rw [eM_92, va_up_ne _ _ (hc80.neT hc84 (by decide))]; exact hM81
          have hf_97 : ∀ j, j < 120 → ∃ c : Nat, c < 24 ∧ (upd f85 ((nI v3w6) : Int32).toNatClampNeg (nI c_88)) j = nI c := (updP (P := fun z => ∃ c : Nat, c < 24 ∧ z = nI c) hf85 ⟨c_88, by omega, rfl⟩)
          obtain ⟨f_96, ef_96⟩ : ∃ f : Nat → Int32, f = upd f85 ((nI v3w6) : Int32).toNatClampNeg (nI c_88) := ⟨_, rfl⟩
          rw [← ef_96] at hM_93 hf_97
          refine lv_aload_n hx hb dX13_settled_75 rfl (lv_at hl 2 rfl) ?_
          refine pg_getN (D := D) (ci := 12) (v := .ref v80) (C := RX12) (T := TX12) (N := 51) hx hb hg inG12 hown hK hP ik1.1 hM_94 rfl 39 (by decide) (hN.use (Cond.fieldLinkNest RX13 199 RX12 "moveDay" "[I" RX13) 48 rfl rfl) (fun _ h9 => h9) hv80 dX13_settled_76 ?_
          refine lv_iload_n hx hb dX13_settled_79 rfl (lv_at hl 1 rfl) ?_
          refine lv_aload_n hx hb dX13_settled_80 rfl (lv_at hl 2 rfl) ?_
          refine pg_getN (D := D) (ci := 12) (v := .ref v80) (C := RX12) (T := TX12) (N := 51) hx hb hg inG12 hown hK hP ik1.1 hM_94 rfl 39 (by decide) (hN.use (Cond.fieldLinkNest RX13 199 RX12 "moveDay" "[I" RX13) 48 rfl rfl) (fun _ h9 => h9) hv80 dX13_settled_81 ?_
          refine lv_iload hx hb dX13_settled_84 (lv_at hl 0 rfl) ?_
          refine pg_iald hx hb hK hP hc80.1 0 hM_95 rfl (inbN v4w6 120 (by omega) (by omega)) dX13_settled_86 ?_
          refine lv_topi (fun f_98 ef_98 => ?_)
          have hy39 : gqw6 = f81 := (congrFun hV.2.2.1 39).symm.trans (ax_of hM_94 (by decide) hv80 hM_95)
          have hv9 : f_98 = ax M k1 39 v4w6 := by
            rw [← hx_11 v4w6 (by omega)]
            have h9 : gqw6 (nI v4w6).toNatClampNeg = f_98 := by rw [hy39]; exact ef_98.symm
            rw [nI_cl (by omega)] at h9
            exact h9.symm
          refine pg_iast hx hb hK hP hD hS hc80.1 0 hM_95 rfl (inbN v3w6 120 (by omega) (by omega)) dX13_settled_87 (fun H_99 locs hP hD hS => ?_)
          obtain ⟨M_100, eM_100⟩ : ∃ M1 : Hp, M1 = va_up M_92 v80 (.inl (cy 14, 120, .inl (upd f81 ((nI v3w6) : Int32).toNatClampNeg f_98))) := ⟨_, rfl⟩
          have hy39 : gqw6 = f81 := (congrFun hV.2.2.1 39).symm.trans (ax_of hM_94 (by decide) hv80 hM_95)
          have hV : VW K L M M_100 k1 (fx M k1) (va_up (va_up (va_up (va_up (va_up (ax M k1) 38 gpw6) 39 gqw6) 40 grw6) 38 (upd gpw6 ((nI v3w6) : Int32).toNatClampNeg (nI c_88))) 39 (upd gqw6 ((nI v3w6) : Int32).toNatClampNeg f_98)) := by rw [eM_100]; exact hV.ast (j := 39) hW ik1 hM_94 (by decide) hv80 hc80 hM_95
          have hP : va_P D vwCl ([] ++ va_pl L M_100) H_99 := by rw [eM_100]; exact hP
          have hD : va_D A ([] ++ va_pl L M_100) := by rw [eM_100]; exact hD
          have hW : WOM cy K L M_100 := by rw [eM_100]; exact hW.up_80 hc80 ⟨_, rfl⟩
          have hF : fr K L [12, 15, 79, 80, 81, 87] M M_100 := by rw [eM_100]; exact hF.up hc80 (by decide)
          have hG : fG K L [8, 14] M M_100 := by rw [eM_100]; exact hG.arr hc80 (by decide)
          have hM_101 : M_100 v80 = .inl (cy 14, 120, .inl (upd f81 ((nI v3w6) : Int32).toNatClampNeg f_98)) := by rw [eM_100]; exact va_up_self _ _ _
          have hM_102 : M_100 v84 = .inl (cy 14, 120, .inl (f_96)) := by rw [eM_100, va_up_ne _ _ (hc84.neT hc80 (by decide))]; exact hM_93
          have hM_103 : M_100 k1 = .inr (12, fs1) := by rw [eM_100, va_up_ne _ _ (ik1.neT hc80 (by decide))]; exact hM_94
          obtain ⟨f_104, ef_104⟩ : ∃ f : Nat → Int32, f = upd f81 ((nI v3w6) : Int32).toNatClampNeg f_98 := ⟨_, rfl⟩
          rw [← ef_104] at hM_101
          refine lv_aload_n hx hb dX13_settled_88 rfl (lv_at hl 2 rfl) ?_
          obtain ⟨v105, hv105, hc105⟩ : ∃ v : Nat, fs1[40]? = some (.ref v : Value) ∧ isk K L v 81 120 := hl1 40 (by decide)
          refine pg_getN (D := D) (ci := 12) (v := .ref v105) (C := RX12) (T := TX12) (N := 51) hx hb hg inG12 hown hK hP ik1.1 hM_103 rfl 40 (by decide) (hN.use (Cond.fieldLinkNest RX13 202 RX12 "moveSum" "[I" RX13) 49 rfl rfl) (fun _ h9 => h9) hv105 dX13_settled_89 ?_
          refine lv_iload_n hx hb dX13_settled_92 rfl (lv_at hl 1 rfl) ?_
          refine lv_aload_n hx hb dX13_settled_93 rfl (lv_at hl 2 rfl) ?_
          refine pg_getN (D := D) (ci := 12) (v := .ref v105) (C := RX12) (T := TX12) (N := 51) hx hb hg inG12 hown hK hP ik1.1 hM_103 rfl 40 (by decide) (hN.use (Cond.fieldLinkNest RX13 202 RX12 "moveSum" "[I" RX13) 49 rfl rfl) (fun _ h9 => h9) hv105 dX13_settled_94 ?_
          refine lv_iload hx hb dX13_settled_97 (lv_at hl 0 rfl) ?_
          obtain ⟨f106, hM106⟩ := hW.open_81 hc105
          refine pg_iald hx hb hK hP hc105.1 0 hM106 rfl (inbN v4w6 120 (by omega) (by omega)) dX13_settled_99 ?_
          refine lv_topi (fun f_107 ef_107 => ?_)
          have hy40 : grw6 = f106 := (congrFun hV.2.2.1 40).symm.trans (ax_of hM_103 (by decide) hv105 hM106)
          have hw9 : f_107 = ax M k1 40 v4w6 := by
            rw [← hx_12 v4w6 (by omega)]
            have h9 : grw6 (nI v4w6).toNatClampNeg = f_107 := by rw [hy40]; exact ef_107.symm
            rw [nI_cl (by omega)] at h9
            exact h9.symm
          refine pg_iast hx hb hK hP hD hS hc105.1 0 hM106 rfl (inbN v3w6 120 (by omega) (by omega)) dX13_settled_100 (fun H_108 locs hP hD hS => ?_)
          obtain ⟨M_109, eM_109⟩ : ∃ M1 : Hp, M1 = va_up M_100 v105 (.inl (cy 14, 120, .inl (upd f106 ((nI v3w6) : Int32).toNatClampNeg f_107))) := ⟨_, rfl⟩
          have hy40 : grw6 = f106 := (congrFun hV.2.2.1 40).symm.trans (ax_of hM_103 (by decide) hv105 hM106)
          have hV : VW K L M M_109 k1 (fx M k1) (va_up (va_up (va_up (va_up (va_up (va_up (ax M k1) 38 gpw6) 39 gqw6) 40 grw6) 38 (upd gpw6 ((nI v3w6) : Int32).toNatClampNeg (nI c_88))) 39 (upd gqw6 ((nI v3w6) : Int32).toNatClampNeg f_98)) 40 (upd grw6 ((nI v3w6) : Int32).toNatClampNeg f_107)) := by rw [eM_109]; exact hV.ast (j := 40) hW ik1 hM_103 (by decide) hv105 hc105 hM106
          have hP : va_P D vwCl ([] ++ va_pl L M_109) H_108 := by rw [eM_109]; exact hP
          have hD : va_D A ([] ++ va_pl L M_109) := by rw [eM_109]; exact hD
          have hW : WOM cy K L M_109 := by rw [eM_109]; exact hW.up_81 hc105 ⟨_, rfl⟩
          have hF : fr K L [12, 15, 79, 80, 81, 87] M M_109 := by rw [eM_109]; exact hF.up hc105 (by decide)
          have hG : fG K L [8, 14] M M_109 := by rw [eM_109]; exact hG.arr hc105 (by decide)
          have hM_110 : M_109 v105 = .inl (cy 14, 120, .inl (upd f106 ((nI v3w6) : Int32).toNatClampNeg f_107)) := by rw [eM_109]; exact va_up_self _ _ _
          have hM_111 : M_109 v80 = .inl (cy 14, 120, .inl (f_104)) := by rw [eM_109, va_up_ne _ _ (hc80.neT hc105 (by decide))]; exact hM_101
          have hM_112 : M_109 v84 = .inl (cy 14, 120, .inl (f_96)) := by rw [eM_109, va_up_ne _ _ (hc84.neT hc105 (by decide))]; exact hM_102
          have hM_113 : M_109 k1 = .inr (12, fs1) := by rw [eM_109, va_up_ne _ _ (ik1.neT hc105 (by decide))]; exact hM_103
          obtain ⟨f_114, ef_114⟩ : ∃ f : Nat → Int32, f = upd f106 ((nI v3w6) : Int32).toNatClampNeg f_107 := ⟨_, rfl⟩
          rw [← ef_114] at hM_110
          refine lv_iinc (v := (nI (v3w6 + 1))) (lv' := [(3, .int (nI (v3w6 + 1))), (4, .int (nI v4w6)), (0, .ref k1), (1, .int k2), (2, .int k3)]) hx hb dX13_settled_101 hl (k := 1) rfl (nI_1 v3w6) (by decide) rfl (fun ls hl => ?_)
          refine lv_iinc (v := (nI (v4w6 + 1))) (lv' := [(4, .int (nI (v4w6 + 1))), (3, .int (nI (v3w6 + 1))), (0, .ref k1), (1, .int k2), (2, .int k3)]) hx hb dX13_settled_104 hl (k := 1) rfl (nI_1 v4w6) (by decide) rfl (fun ls hl => ?_)
          refine lv_goto (tgt := 5) hx hb dX13_settled_107 (by decide) ?_
          exact ih_4 (v3w6 + 1) (v4w6 + 1) (upd gpw6 ((nI v3w6) : Int32).toNatClampNeg (nI c_88)) (upd gqw6 ((nI v3w6) : Int32).toNatClampNeg f_98) (upd grw6 ((nI v3w6) : Int32).toNatClampNeg f_107) M_109 H_108 _ _ (by omega) hM_113 (by omega) (by omega) (by omega) (stay_f hx_10 (nI_cl (by omega)) (by omega)) (stay_f hx_11 (nI_cl (by omega)) (by omega)) (stay_f hx_12 (nI_cl (by omega)) (by omega)) (stay_yes hx_13 (nI_cl (by omega)) (fun q => absurd (by rw [← hdv1] at q; exact q.1) (Int32.not_le.mpr c_83)) hu9 hv9 hw9) hW hF hG (by have h := hV; rw [va_up_9] at h; exact h) hP hD hS (lv_sub hl [0, 1, 2, 3, 4] rfl)
        · have hz := rfl (a := 0)
          refine lv_aload_n hx hb dX13_settled_25 rfl (lv_at hl 2 rfl) ?_
          refine pg_getN (D := D) (ci := 12) (v := .ref v80) (C := RX12) (T := TX12) (N := 51) hx hb hg inG12 hown hK hP ik1.1 hM_16 rfl 39 (by decide) (hN.use (Cond.fieldLinkNest RX13 199 RX12 "moveDay" "[I" RX13) 48 rfl rfl) (fun _ h9 => h9) hv80 dX13_settled_26 ?_
          refine lv_iload hx hb dX13_settled_29 (lv_at hl 0 rfl) ?_
          refine pg_iald hx hb hK hP hc80.1 0 hM81 rfl (inbN v4w6 120 (by omega) (by omega)) dX13_settled_31 ?_
          refine lv_topi (fun f_115 ef_115 => ?_)
          have hy39 : gqw6 = f81 := (congrFun hV.2.2.1 39).symm.trans (ax_of hM_16 (by decide) hv80 hM81)
          have hdv2 : f_115 = ax M k1 39 v4w6 := by
            rw [← hx_11 v4w6 (by omega)]
            have h9 : gqw6 (nI v4w6).toNatClampNeg = f_115 := by rw [hy39]; exact ef_115.symm
            rw [nI_cl (by omega)] at h9
            exact h9.symm
          refine lv_iload_n hx hb dX13_settled_32 rfl (lv_at hl 4 rfl) ?_
          refine lv_icmp_gt (tgt := 62) hx hb dX13_settled_33 (by decide) (fun c_116 => ?_) (fun c_116 => ?_)
          · have hz := rfl (a := 0)
            refine lv_aload_n hx hb dX13_settled_62 rfl (lv_at hl 2 rfl) ?_
            obtain ⟨v117, hv117, hc117⟩ : ∃ v : Nat, fs1[38]? = some (.ref v : Value) ∧ isk K L v 79 120 := hl1 38 (by decide)
            refine pg_getN (D := D) (ci := 12) (v := .ref v117) (C := RX12) (T := TX12) (N := 51) hx hb hg inG12 hown hK hP ik1.1 hM_16 rfl 38 (by decide) (hN.use (Cond.fieldLinkNest RX13 196 RX12 "moveOf" "[I" RX13) 47 rfl rfl) (fun _ h9 => h9) hv117 dX13_settled_63 ?_
            refine lv_iload_n hx hb dX13_settled_66 rfl (lv_at hl 1 rfl) ?_
            refine lv_aload_n hx hb dX13_settled_67 rfl (lv_at hl 2 rfl) ?_
            refine pg_getN (D := D) (ci := 12) (v := .ref v117) (C := RX12) (T := TX12) (N := 51) hx hb hg inG12 hown hK hP ik1.1 hM_16 rfl 38 (by decide) (hN.use (Cond.fieldLinkNest RX13 196 RX12 "moveOf" "[I" RX13) 47 rfl rfl) (fun _ h9 => h9) hv117 dX13_settled_68 ?_
            refine lv_iload hx hb dX13_settled_71 (lv_at hl 0 rfl) ?_
            obtain ⟨f118, hM118, hf118⟩ := hW.open_79 hc117
            have hi_119 : vp_in (nI v4w6) 120 := (inbN v4w6 120 (by omega) (by omega))
            refine pg_iald hx hb hK hP hc117.1 0 hM118 rfl hi_119 dX13_settled_73 ?_
            have hp_120 := hf118 _ (vp_lt hi_119)
            obtain ⟨c_121, hc_122, ec_123⟩ := hp_120
            rw [ec_123]
            have hy38 : gpw6 = f118 := (congrFun hV.2.2.1 38).symm.trans (ax_of hM_16 (by decide) hv117 hM118)
            have hu9 : (nI c_121) = ax M k1 38 v4w6 := by
              rw [← hx_10 v4w6 (by omega)]
              have h9 : gpw6 (nI v4w6).toNatClampNeg = (nI c_121) := by rw [hy38]; exact ec_123
              rw [nI_cl (by omega)] at h9
              exact h9.symm
            refine pg_iast hx hb hK hP hD hS hc117.1 0 hM118 rfl (inbN v3w6 120 (by omega) (by omega)) dX13_settled_74 (fun H_124 locs hP hD hS => ?_)
            obtain ⟨M_125, eM_125⟩ : ∃ M1 : Hp, M1 = va_up M_14 v117 (.inl (cy 14, 120, .inl (upd f118 ((nI v3w6) : Int32).toNatClampNeg (nI c_121)))) := ⟨_, rfl⟩
            have hy38 : gpw6 = f118 := (congrFun hV.2.2.1 38).symm.trans (ax_of hM_16 (by decide) hv117 hM118)
            have hV : VW K L M M_125 k1 (fx M k1) (va_up (va_up (va_up (va_up (ax M k1) 38 gpw6) 39 gqw6) 40 grw6) 38 (upd gpw6 ((nI v3w6) : Int32).toNatClampNeg (nI c_121))) := by rw [eM_125]; exact hV.ast (j := 38) hW ik1 hM_16 (by decide) hv117 hc117 hM118
            have hP : va_P D vwCl ([] ++ va_pl L M_125) H_124 := by rw [eM_125]; exact hP
            have hD : va_D A ([] ++ va_pl L M_125) := by rw [eM_125]; exact hD
            have hW : WOM cy K L M_125 := by rw [eM_125]; exact hW.up_79 hc117 ⟨_, rfl, (updP (P := fun z => ∃ c : Nat, c < 24 ∧ z = nI c) hf118 ⟨c_121, by omega, rfl⟩)⟩
            have hF : fr K L [12, 15, 79, 80, 81, 87] M M_125 := by rw [eM_125]; exact hF.up hc117 (by decide)
            have hG : fG K L [8, 14] M M_125 := by rw [eM_125]; exact hG.arr hc117 (by decide)
            have hM_126 : M_125 v117 = .inl (cy 14, 120, .inl (upd f118 ((nI v3w6) : Int32).toNatClampNeg (nI c_121))) := by rw [eM_125]; exact va_up_self _ _ _
            have hM_127 : M_125 k1 = .inr (12, fs1) := by rw [eM_125, va_up_ne _ _ (ik1.neT hc117 (by decide))]; exact hM_16
            have hM_128 : M_125 v80 = .inl (cy 14, 120, .inl (f81)) := by rw [eM_125, va_up_ne _ _ (hc80.neT hc117 (by decide))]; exact hM81
            have hf_130 : ∀ j, j < 120 → ∃ c : Nat, c < 24 ∧ (upd f118 ((nI v3w6) : Int32).toNatClampNeg (nI c_121)) j = nI c := (updP (P := fun z => ∃ c : Nat, c < 24 ∧ z = nI c) hf118 ⟨c_121, by omega, rfl⟩)
            obtain ⟨f_129, ef_129⟩ : ∃ f : Nat → Int32, f = upd f118 ((nI v3w6) : Int32).toNatClampNeg (nI c_121) := ⟨_, rfl⟩
            rw [← ef_129] at hM_126 hf_130
            refine lv_aload_n hx hb dX13_settled_75 rfl (lv_at hl 2 rfl) ?_
            refine pg_getN (D := D) (ci := 12) (v := .ref v80) (C := RX12) (T := TX12) (N := 51) hx hb hg inG12 hown hK hP ik1.1 hM_127 rfl 39 (by decide) (hN.use (Cond.fieldLinkNest RX13 199 RX12 "moveDay" "[I" RX13) 48 rfl rfl) (fun _ h9 => h9) hv80 dX13_settled_76 ?_
            refine lv_iload_n hx hb dX13_settled_79 rfl (lv_at hl 1 rfl) ?_
            refine lv_aload_n hx hb dX13_settled_80 rfl (lv_at hl 2 rfl) ?_
            refine pg_getN (D := D) (ci := 12) (v := .ref v80) (C := RX12) (T := TX12) (N := 51) hx hb hg inG12 hown hK hP ik1.1 hM_127 rfl 39 (by decide) (hN.use (Cond.fieldLinkNest RX13 199 RX12 "moveDay" "[I" RX13) 48 rfl rfl) (fun _ h9 => h9) hv80 dX13_settled_81 ?_
            refine lv_iload hx hb dX13_settled_84 (lv_at hl 0 rfl) ?_
            refine pg_iald hx hb hK hP hc80.1 0 hM_128 rfl (inbN v4w6 120 (by omega) (by omega)) dX13_settled_86 ?_
            refine lv_topi (fun f_131 ef_131 => ?_)
            have hy39 : gqw6 = f81 := (congrFun hV.2.2.1 39).symm.trans (ax_of hM_127 (by decide) hv80 hM_128)
            have hv9 : f_131 = ax M k1 39 v4w6 := by
              rw [← hx_11 v4w6 (by omega)]
              have h9 : gqw6 (nI v4w6).toNatClampNeg = f_131 := by rw [hy39]; exact ef_131.symm
              rw [nI_cl (by omega)] at h9
              exact h9.symm
            refine pg_iast hx hb hK hP hD hS hc80.1 0 hM_128 rfl (inbN v3w6 120 (by omega) (by omega)) dX13_settled_87 (fun H_132 locs hP hD hS => ?_)
            obtain ⟨M_133, eM_133⟩ : ∃ M1 : Hp, M1 = va_up M_125 v80 (.inl (cy 14, 120, .inl (upd f81 ((nI v3w6) : Int32).toNatClampNeg f_131))) := ⟨_, rfl⟩
            have hy39 : gqw6 = f81 := (congrFun hV.2.2.1 39).symm.trans (ax_of hM_127 (by decide) hv80 hM_128)
            have hV : VW K L M M_133 k1 (fx M k1) (va_up (va_up (va_up (va_up (va_up (ax M k1) 38 gpw6) 39 gqw6) 40 grw6) 38 (upd gpw6 ((nI v3w6) : Int32).toNatClampNeg (nI c_121))) 39 (upd gqw6 ((nI v3w6) : Int32).toNatClampNeg f_131)) := by rw [eM_133]; exact hV.ast (j := 39) hW ik1 hM_127 (by decide) hv80 hc80 hM_128
            have hP : va_P D vwCl ([] ++ va_pl L M_133) H_132 := by rw [eM_133]; exact hP
            have hD : va_D A ([] ++ va_pl L M_133) := by rw [eM_133]; exact hD
            have hW : WOM cy K L M_133 := by rw [eM_133]; exact hW.up_80 hc80 ⟨_, rfl⟩
            have hF : fr K L [12, 15, 79, 80, 81, 87] M M_133 := by rw [eM_133]; exact hF.up hc80 (by decide)
            have hG : fG K L [8, 14] M M_133 := by rw [eM_133]; exact hG.arr hc80 (by decide)
            have hM_134 : M_133 v80 = .inl (cy 14, 120, .inl (upd f81 ((nI v3w6) : Int32).toNatClampNeg f_131)) := by rw [eM_133]; exact va_up_self _ _ _
            have hM_135 : M_133 v117 = .inl (cy 14, 120, .inl (f_129)) := by rw [eM_133, va_up_ne _ _ (hc117.neT hc80 (by decide))]; exact hM_126
            have hM_136 : M_133 k1 = .inr (12, fs1) := by rw [eM_133, va_up_ne _ _ (ik1.neT hc80 (by decide))]; exact hM_127
            obtain ⟨f_137, ef_137⟩ : ∃ f : Nat → Int32, f = upd f81 ((nI v3w6) : Int32).toNatClampNeg f_131 := ⟨_, rfl⟩
            rw [← ef_137] at hM_134
            refine lv_aload_n hx hb dX13_settled_88 rfl (lv_at hl 2 rfl) ?_
            obtain ⟨v138, hv138, hc138⟩ : ∃ v : Nat, fs1[40]? = some (.ref v : Value) ∧ isk K L v 81 120 := hl1 40 (by decide)
            refine pg_getN (D := D) (ci := 12) (v := .ref v138) (C := RX12) (T := TX12) (N := 51) hx hb hg inG12 hown hK hP ik1.1 hM_136 rfl 40 (by decide) (hN.use (Cond.fieldLinkNest RX13 202 RX12 "moveSum" "[I" RX13) 49 rfl rfl) (fun _ h9 => h9) hv138 dX13_settled_89 ?_
            refine lv_iload_n hx hb dX13_settled_92 rfl (lv_at hl 1 rfl) ?_
            refine lv_aload_n hx hb dX13_settled_93 rfl (lv_at hl 2 rfl) ?_
            refine pg_getN (D := D) (ci := 12) (v := .ref v138) (C := RX12) (T := TX12) (N := 51) hx hb hg inG12 hown hK hP ik1.1 hM_136 rfl 40 (by decide) (hN.use (Cond.fieldLinkNest RX13 202 RX12 "moveSum" "[I" RX13) 49 rfl rfl) (fun _ h9 => h9) hv138 dX13_settled_94 ?_
            refine lv_iload hx hb dX13_settled_97 (lv_at hl 0 rfl) ?_
            obtain ⟨f139, hM139⟩ := hW.open_81 hc138
            refine pg_iald hx hb hK hP hc138.1 0 hM139 rfl (inbN v4w6 120 (by omega) (by omega)) dX13_settled_99 ?_
            refine lv_topi (fun f_140 ef_140 => ?_)
            have hy40 : grw6 = f139 := (congrFun hV.2.2.1 40).symm.trans (ax_of hM_136 (by decide) hv138 hM139)
            have hw9 : f_140 = ax M k1 40 v4w6 := by
              rw [← hx_12 v4w6 (by omega)]
              have h9 : grw6 (nI v4w6).toNatClampNeg = f_140 := by rw [hy40]; exact ef_140.symm
              rw [nI_cl (by omega)] at h9
              exact h9.symm
            refine pg_iast hx hb hK hP hD hS hc138.1 0 hM139 rfl (inbN v3w6 120 (by omega) (by omega)) dX13_settled_100 (fun H_141 locs hP hD hS => ?_)
            obtain ⟨M_142, eM_142⟩ : ∃ M1 : Hp, M1 = va_up M_133 v138 (.inl (cy 14, 120, .inl (upd f139 ((nI v3w6) : Int32).toNatClampNeg f_140))) := ⟨_, rfl⟩
            have hy40 : grw6 = f139 := (congrFun hV.2.2.1 40).symm.trans (ax_of hM_136 (by decide) hv138 hM139)
            have hV : VW K L M M_142 k1 (fx M k1) (va_up (va_up (va_up (va_up (va_up (va_up (ax M k1) 38 gpw6) 39 gqw6) 40 grw6) 38 (upd gpw6 ((nI v3w6) : Int32).toNatClampNeg (nI c_121))) 39 (upd gqw6 ((nI v3w6) : Int32).toNatClampNeg f_131)) 40 (upd grw6 ((nI v3w6) : Int32).toNatClampNeg f_140)) := by rw [eM_142]; exact hV.ast (j := 40) hW ik1 hM_136 (by decide) hv138 hc138 hM139
            have hP : va_P D vwCl ([] ++ va_pl L M_142) H_141 := by rw [eM_142]; exact hP
            have hD : va_D A ([] ++ va_pl L M_142) := by rw [eM_142]; exact hD
            have hW : WOM cy K L M_142 := by rw [eM_142]; exact hW.up_81 hc138 ⟨_, rfl⟩
            have hF : fr K L [12, 15, 79, 80, 81, 87] M M_142 := by rw [eM_142]; exact hF.up hc138 (by decide)
            have hG : fG K L [8, 14] M M_142 := by rw [eM_142]; exact hG.arr hc138 (by decide)
            have hM_143 : M_142 v138 = .inl (cy 14, 120, .inl (upd f139 ((nI v3w6) : Int32).toNatClampNeg f_140)) := by rw [eM_142]; exact va_up_self _ _ _
            have hM_144 : M_142 v80 = .inl (cy 14, 120, .inl (f_137)) := by rw [eM_142, va_up_ne _ _ (hc80.neT hc138 (by decide))]; exact hM_134
            have hM_145 : M_142 v117 = .inl (cy 14, 120, .inl (f_129)) := by rw [eM_142, va_up_ne _ _ (hc117.neT hc138 (by decide))]; exact hM_135
            have hM_146 : M_142 k1 = .inr (12, fs1) := by rw [eM_142, va_up_ne _ _ (ik1.neT hc138 (by decide))]; exact hM_136
            obtain ⟨f_147, ef_147⟩ : ∃ f : Nat → Int32, f = upd f139 ((nI v3w6) : Int32).toNatClampNeg f_140 := ⟨_, rfl⟩
            rw [← ef_147] at hM_143
            refine lv_iinc (v := (nI (v3w6 + 1))) (lv' := [(3, .int (nI (v3w6 + 1))), (4, .int (nI v4w6)), (0, .ref k1), (1, .int k2), (2, .int k3)]) hx hb dX13_settled_101 hl (k := 1) rfl (nI_1 v3w6) (by decide) rfl (fun ls hl => ?_)
            refine lv_iinc (v := (nI (v4w6 + 1))) (lv' := [(4, .int (nI (v4w6 + 1))), (3, .int (nI (v3w6 + 1))), (0, .ref k1), (1, .int k2), (2, .int k3)]) hx hb dX13_settled_104 hl (k := 1) rfl (nI_1 v4w6) (by decide) rfl (fun ls hl => ?_)
            refine lv_goto (tgt := 5) hx hb dX13_settled_107 (by decide) ?_
            exact ih_4 (v3w6 + 1) (v4w6 + 1) (upd gpw6 ((nI v3w6) : Int32).toNatClampNeg (nI c_121)) (upd gqw6 ((nI v3w6) : Int32).toNatClampNeg f_131) (upd grw6 ((nI v3w6) : Int32).toNatClampNeg f_140) M_142 H_141 _ _ (by omega) hM_146 (by omega) (by omega) (by omega) (stay_f hx_10 (nI_cl (by omega)) (by omega)) (stay_f hx_11 (nI_cl (by omega)) (by omega)) (stay_f hx_12 (nI_cl (by omega)) (by omega)) (stay_yes hx_13 (nI_cl (by omega)) (fun q => absurd (by rw [← hdv2] at q; exact q.2) (Int32.not_le.mpr c_116)) hu9 hv9 hw9) hW hF hG (by have h := hV; rw [va_up_9] at h; exact h) hP hD hS (lv_sub hl [0, 1, 2, 3, 4] rfl)
          · have hz := rfl (a := 0)
            refine lv_aload_n hx hb dX13_settled_36 rfl (lv_at hl 2 rfl) ?_
            obtain ⟨v148, hv148, hc148⟩ : ∃ v : Nat, fs1[27]? = some (.ref v : Value) ∧ isk K L v 87 24 := hl1 27 (by decide)
            refine pg_getN (D := D) (ci := 12) (v := .ref v148) (C := RX12) (T := TX12) (N := 51) hx hb hg inG12 hown hK hP ik1.1 hM_16 rfl 27 (by decide) (hN.use (Cond.fieldLinkNest RX13 307 RX12 "credit" "[J" RX13) 36 rfl rfl) (fun _ h9 => h9) hv148 dX13_settled_37 ?_
            refine lv_aload_n hx hb dX13_settled_40 rfl (lv_at hl 2 rfl) ?_
            obtain ⟨v149, hv149, hc149⟩ : ∃ v : Nat, fs1[38]? = some (.ref v : Value) ∧ isk K L v 79 120 := hl1 38 (by decide)
            refine pg_getN (D := D) (ci := 12) (v := .ref v149) (C := RX12) (T := TX12) (N := 51) hx hb hg inG12 hown hK hP ik1.1 hM_16 rfl 38 (by decide) (hN.use (Cond.fieldLinkNest RX13 196 RX12 "moveOf" "[I" RX13) 47 rfl rfl) (fun _ h9 => h9) hv149 dX13_settled_41 ?_
            refine lv_iload hx hb dX13_settled_44 (lv_at hl 0 rfl) ?_
            obtain ⟨f150, hM150, hf150⟩ := hW.open_79 hc149
            have hi_151 : vp_in (nI v4w6) 120 := (inbN v4w6 120 (by omega) (by omega))
            refine pg_iald hx hb hK hP hc149.1 0 hM150 rfl hi_151 dX13_settled_46 ?_
            have hp_152 := hf150 _ (vp_lt hi_151)
            obtain ⟨c_153, hc_154, ec_155⟩ := hp_152
            rw [ec_155]
            refine lv_dup2_11 hx hb dX13_settled_47 rfl rfl ?_
            obtain ⟨f156, hM156⟩ := hW.open_87 hc148
            refine pg_lald hx hb hK hP hc148.1 1 hM156 rfl (inbN c_153 24 (by omega) (by omega)) dX13_settled_48 ?_
            refine lv_topl (fun f_157 ef_157 => ?_)
            refine lv_aload_n hx hb dX13_settled_49 rfl (lv_at hl 2 rfl) ?_
            obtain ⟨v158, hv158, hc158⟩ : ∃ v : Nat, fs1[40]? = some (.ref v : Value) ∧ isk K L v 81 120 := hl1 40 (by decide)
            refine pg_getN (D := D) (ci := 12) (v := .ref v158) (C := RX12) (T := TX12) (N := 51) hx hb hg inG12 hown hK hP ik1.1 hM_16 rfl 40 (by decide) (hN.use (Cond.fieldLinkNest RX13 202 RX12 "moveSum" "[I" RX13) 49 rfl rfl) (fun _ h9 => h9) hv158 dX13_settled_50 ?_
            refine lv_iload hx hb dX13_settled_53 (lv_at hl 0 rfl) ?_
            obtain ⟨f159, hM159⟩ := hW.open_81 hc158
            refine pg_iald hx hb hK hP hc158.1 0 hM159 rfl (inbN v4w6 120 (by omega) (by omega)) dX13_settled_55 ?_
            refine lv_topi (fun f_160 ef_160 => ?_)
            refine lv_i2l hx hb dX13_settled_56 rfl ?_
            refine lv_topl (fun f_161 ef_161 => ?_)
            refine lv_ladd hx hb dX13_settled_57 ?_
            refine lv_topl (fun f_162 ef_162 => ?_)
            refine pg_last hx hb hK hP hD hS hc148.1 1 hM156 rfl (inbN c_153 24 (by omega) (by omega)) dX13_settled_58 (fun H_163 locs hP hD hS => ?_)
            obtain ⟨M_164, eM_164⟩ : ∃ M1 : Hp, M1 = va_up M_14 v148 (.inl (cy 15, 24, .inr (.inl (vp_updL f156 ((nI c_153) : Int32).toNatClampNeg f_162)))) := ⟨_, rfl⟩
            have hV : VW K L M M_164 k1 (fx M k1) (va_up (va_up (va_up (ax M k1) 38 gpw6) 39 gqw6) 40 grw6) := by rw [eM_164]; exact hV.oth hW ik1 hc148 (by decide)
            have hP : va_P D vwCl ([] ++ va_pl L M_164) H_163 := by rw [eM_164]; exact hP
            have hD : va_D A ([] ++ va_pl L M_164) := by rw [eM_164]; exact hD
            have hW : WOM cy K L M_164 := by rw [eM_164]; exact hW.up_87 hc148 ⟨_, rfl⟩
            have hF : fr K L [12, 15, 79, 80, 81, 87] M M_164 := by rw [eM_164]; exact hF.up hc148 (by decide)
            have hG : fG K L [8, 14] M M_164 := by rw [eM_164]; exact hG.arr hc148 (by decide)
            have hM_165 : M_164 v148 = .inl (cy 15, 24, .inr (.inl (vp_updL f156 ((nI c_153) : Int32).toNatClampNeg f_162))) := by rw [eM_164]; exact va_up_self _ _ _
            have hM_166 : M_164 k1 = .inr (12, fs1) := by rw [eM_164, va_up_ne _ _ (ik1.neT hc148 (by decide))]; exact hM_16
            have hM_167 : M_164 v80 = .inl (cy 14, 120, .inl (f81)) := by rw [eM_164, va_up_ne _ _ (hc80.neT hc148 (by decide))]; exact hM81
            have hM_168 : M_164 v149 = .inl (cy 14, 120, .inl (f150)) := by rw [eM_164, va_up_ne _ _ (hc149.neT hc148 (by decide))]; exact hM150
            have hM_169 : M_164 v158 = .inl (cy 14, 120, .inl (f159)) := by rw [eM_164, va_up_ne _ _ (hc158.neT hc148 (by decide))]; exact hM159
            obtain ⟨f_170, ef_170⟩ : ∃ f : Nat → Int64, f = vp_updL f156 ((nI c_153) : Int32).toNatClampNeg f_162 := ⟨_, rfl⟩
            rw [← ef_170] at hM_165
            refine lv_goto (tgt := 104) hx hb dX13_settled_59 (by decide) ?_
            refine lv_iinc (v := (nI (v4w6 + 1))) (lv' := [(4, .int (nI (v4w6 + 1))), (3, .int (nI v3w6)), (0, .ref k1), (1, .int k2), (2, .int k3)]) hx hb dX13_settled_104 hl (k := 0) rfl (nI_1 v4w6) (by decide) rfl (fun ls hl => ?_)
            refine lv_goto (tgt := 5) hx hb dX13_settled_107 (by decide) ?_
            exact ih_4 v3w6 (v4w6 + 1) gpw6 gqw6 grw6 M_164 H_163 _ _ (by omega) hM_166 (by omega) (by omega) (by omega) (fun i hi => hx_10 i (by omega)) (fun i hi => hx_11 i (by omega)) (fun i hi => hx_12 i (by omega)) (stay_no hx_13 (by rw [← hdv1]; exact Int32.not_lt.mp c_83) (by rw [← hdv2]; exact Int32.not_lt.mp c_116)) hW hF hG hV hP hD hS (lv_sub hl [0, 1, 2, 3, 4] rfl)
  exact key_3 (120 - 0 + 1) 0 0 (ax M k1 38) (ax M k1 39) (ax M k1 40) M s.heap _ _ (by omega) hM1 (by omega) (by omega) (by omega) (fun _ _ => rfl) (fun _ _ => rfl) (fun _ _ => rfl) rfl hW hF hG (by rw [va_up_id, va_up_id, va_up_id]; exact hV) hP hD hS (lv_sub hl [0, 1, 2, 3, 4] rfl)
set_option maxHeartbeats 4000000 in
set_option maxRecDepth 100000 in
theorem g_X13_incomes (l : Launch) (D : va_G) (cy : Nat → ClassId) (K : Kp) (L : List Nat) (M : Hp) (sz : Nat) (za : Nat) (z0 : Int32) (z1 : Nat) (z2 : Nat) (z3 : Nat) (z4 : Int32) (z5 : Int32) (z6 : Nat) (z7 : Nat) (z8 : Nat) (z9 : Nat) (z10 : Nat) (z11 : Nat) (z12 : Nat) (z13 : Nat) (z14 : Nat) (z15 : Nat) (z16 : Nat) (z17 : Nat) (z18 : Int32) (z19 : Nat) (k1 : Nat) (k2 : Nat) (hW : WOM cy K L M) (i1 : isk K L z1 23 8) (b2 : z2 ≤ 8) (b3 : z3 ≤ 40) (i6 : isk K L z6 47 40) (i7 : isk K L z7 48 40) (i8 : isk K L z8 49 8) (i9 : isk K L z9 50 8) (b10 : z10 ≤ 8) (i11 : isk K L z11 32 24) (i12 : isk K L z12 14 24) (i13 : isk K L z13 97 24) (i14 : isk K L z14 98 24) (i15 : isk K L z15 99 24) (b16 : z16 ≤ 24) (i17 : isk K L z17 14 24) (i19 : isk K L z19 15 25) (ik1 : isk K L k1 12 0) (nk2 : k2 < 1000) (hR5 : R5 z6 z7 M) : Met l yX13_incomes (wsM yX13_incomes cX13_incomes 6 none) ({ frames := 1, cells := 0, slots := 0, locals := 15 }) (va_Pc [.ref za, .ref k1, .int (nI k2)] (PG D cy [(za, (b13_0 z0 z1 (nI z2) (nI z3) z4 z5 z6 z7 z8 z9 (nI z10) z11 z12 z13 z14 z15 (nI z16) z17 z18 z19))] L M sz)) (va_Qv (fun (M9 : Hp) => WOM cy K L M9 ∧ fr K L [12, 15, 86] M M9 ∧ fG K L [7] M M9 ∧ (True)) (fun M9 t => PQ D [(za, (b13_0 z0 z1 (nI z2) (nI z3) z4 z5 z6 z7 z8 z9 (nI z10) z11 z12 z13 z14 z15 (nI z16) z17 z18 z19))] L M9 (va_A ([(za, (b13_0 z0 z1 (nI z2) (nI z3) z4 z5 z6 z7 z8 z9 (nI z10) z11 z12 z13 z14 z15 (nI z16) z17 z18 z19))] ++ va_pl L M) sz) t) (va_A ([(za, (b13_0 z0 z1 (nI z2) (nI z3) z4 z5 z6 z7 z8 z9 (nI z10) z11 z12 z13 z14 z15 (nI z16) z17 z18 z19))] ++ va_pl L M) sz)) 0 0 (va_A ([(za, (b13_0 z0 z1 (nI z2) (nI z3) z4 z5 z6 z7 z8 z9 (nI z10) z11 z12 z13 z14 z15 (nI z16) z17 z18 z19))] ++ va_pl L M) sz) := by
  refine Met.ofW (cc := cX13_incomes) (maxL := 6) (ret := none) (by decide) rfl ?_
  intro p e s m args below meth c s₁ B hml hv
  obtain ⟨rfl, hsz, hP, hK, hD0, hN⟩ := hv
  have hx := B.exec
  have hb := B.bytes
  have hr := B.returns
  have hts := atoms_spec (ws := (wsM yX13_incomes cX13_incomes 6 none)) B.pre
  have hg : ∀ w ∈ lw_good, w.before _ s = true := fun w h => hts w (List.mem_cons_of_mem _ h)
  have hown : s.vm.findClass RX13 = some m.cls := findClass_of_methodNamed B.named
  have hlocks := B.notSynchronized
  subst hsz
  have hD := hD0.self (sz := s.heap.size)
  generalize hAe : va_A ([(za, (b13_0 z0 z1 (nI z2) (nI z3) z4 z5 z6 z7 z8 z9 (nI z10) z11 z12 z13 z14 z15 (nI z16) z17 z18 z19))] ++ va_pl L M) s.heap.size = A at hD ⊢
  have hA : ∀ q : Nat, s.heap.size ≤ q → A q := fun q h => by rw [← hAe]; exact Or.inr h
  have hS : va_S A s.heap s.heap [] := va_S.rf
  have hl := lv_entry ([.ref za, .ref k1, .int (nI k2)]) (n := 6) (Nat.le_of_ble_eq_true rfl)
  rw [lg_entry_eq]
  generalize (lg_sl ([.ref za, .ref k1, .int (nI k2)]) ++ List.replicate (6 - (lg_sl ([.ref za, .ref k1, .int (nI k2)])).length) Slot.unset).toArray = ls at hl ⊢
  refine W.nameQ (fun Q hQ => ?_)
  refine W.nameR (fun R hR => ?_)
  have hRf : 1 ≤ R.frames := by rw [hR]; exact Nat.le_of_ble_eq_true rfl
  have hRl : 15 ≤ R.locals := by rw [hR]; exact Nat.le_of_ble_eq_true rfl
  have hRc : 0 ≤ R.cells := by rw [hR]; exact Nat.le_of_ble_eq_true rfl
  have hRs : 0 ≤ R.slots := by rw [hR]; exact Nat.le_of_ble_eq_true rfl
  have hF : fr K L [12, 15, 86] M M := fr.rf
  have hG : fG K L [7] M M := fG.rf
  have hl : lv_has ls 6 [(0, .ref za), (1, .ref k1), (2, .int (nI k2))] := hl
  have hW0 := hW
  refine lv_iconst (v := 0) hx hb dX13_incomes_0 (by decide) ?_
  refine lv_istore_n (lv' := [(3, .int 0), (0, .ref za), (1, .ref k1), (2, .int (nI k2))]) hx hb dX13_incomes_1 rfl hl (by decide) rfl (fun ls hl => ?_)
  have key_1 : ∀ (fu_3 : Nat) (v3w4 : Nat) (M_6 : Hp) (H_7 : Heap) (locs : List Loc) (ls : Array Slot), 24 - v3w4 < fu_3 → v3w4 ≤ 24 → WOM cy K L M_6 → fr K L [12, 15, 86] M M_6 → fG K L [7] M M_6 → va_P D vwCl ([(za, (b13_0 z0 z1 (nI z2) (nI z3) z4 z5 z6 z7 z8 z9 (nI z10) z11 z12 z13 z14 z15 (nI z16) z17 z18 z19))] ++ va_pl L M_6) H_7 → va_D A ([(za, (b13_0 z0 z1 (nI z2) (nI z3) z4 z5 z6 z7 z8 z9 (nI z10) z11 z12 z13 z14 z15 (nI z16) z17 z18 z19))] ++ va_pl L M_6) → va_S A s.heap H_7 locs → lv_has ls 6 [(3, .int (nI v3w4)), (0, .ref za), (1, .ref k1), (2, .int (nI k2))] → W p l e R s m ([.ref za, .ref k1, .int (nI k2)] : List Value).toArray below meth c H_7 locs 0 0 Q (F0 m 2 ls []) := by
    intro fu_3
    induction fu_3 with
    | zero => intro v3w4 M_6 H_7 locs ls h; exact absurd h (Nat.not_lt_zero _)
    | succ fu_3 ih_2 =>
      intro v3w4 M_6 H_7 locs ls hfu hx_5 hW hF hG hP hD hS hl
      refine lv_iload_n hx hb dX13_incomes_2 rfl (lv_at hl 0 rfl) ?_
      refine lv_aload_n hx hb dX13_incomes_3 rfl (lv_at hl 2 rfl) ?_
      obtain ⟨fs8, hM8, hn8, hl8⟩ := hW.open_12 ik1
      obtain ⟨v9, hv9, hc9⟩ : ∃ v : Nat, fs8[10]? = some (.int (nI v) : Value) ∧ v ≤ 24 := hl8 10 (by decide)
      refine pg_getN (D := D) (ci := 12) (v := .int (nI v9)) (C := RX12) (T := TX12) (N := 51) hx hb hg inG12 hown hK hP ik1.1 hM8 rfl 10 (by decide) (hN.use (Cond.fieldLinkNest RX13 68 RX12 "tenures" "I" RX13) 19 rfl rfl) (fun _ h9 => h9) hv9 dX13_incomes_4 ?_
      refine lv_icmp_ge (tgt := 109) hx hb dX13_incomes_7 (by decide) (fun c_10 => ?_) (fun c_10 => ?_)
      · have hz := rfl (a := 0)
        have n_11 : v9 ≤ v3w4 := (iLE (a := v9) (b := v3w4) (by omega) (by omega)).mp c_10
        rw [hQ]
        exact W.vret hx hb hr (fun t ht hW9 => ⟨⟨M_6, rfl, ⟨hW, hF, hG, trivial⟩, ⟨by rw [ht]; exact hP, hD⟩⟩, hS.F ht⟩) hS.2.2 dX13_incomes_109
      · have hz := rfl (a := 0)
        have n_12 : ¬ (v9 ≤ v3w4) := fun q => c_10 ((iLE (a := v9) (b := v3w4) (by omega) (by omega)).mpr q)
        refine lv_aload_n hx hb dX13_incomes_10 rfl (lv_at hl 1 rfl) ?_
        refine va_get (D := D) (ci := 13) (v := .ref z6) (C := RX13) (T := TX13) (N := 20) hx hb hg inG13 hown hK hP 0 rfl rfl 6 (by decide) (hg _ wd_719) (fun _ h9 => h9) rfl dX13_incomes_11 ?_
        refine lv_aload_n hx hb dX13_incomes_14 rfl (lv_at hl 2 rfl) ?_
        obtain ⟨v13, hv13, hc13⟩ : ∃ v : Nat, fs8[19]? = some (.ref v : Value) ∧ isk K L v 30 24 := hl8 19 (by decide)
        refine pg_getN (D := D) (ci := 12) (v := .ref v13) (C := RX12) (T := TX12) (N := 51) hx hb hg inG12 hown hK hP ik1.1 hM8 rfl 19 (by decide) (hN.use (Cond.fieldLinkNest RX13 72 RX12 "who" "[I" RX13) 28 rfl rfl) (fun _ h9 => h9) hv13 dX13_incomes_15 ?_
        refine lv_iload_n hx hb dX13_incomes_18 rfl (lv_at hl 0 rfl) ?_
        obtain ⟨f14, hM14, hf14⟩ := hW.open_30 hc13
        have hi_15 : vp_in (nI v3w4) 24 := (inbN v3w4 24 (by omega) (by omega))
        refine pg_iald hx hb hK hP hc13.1 0 hM14 rfl hi_15 dX13_incomes_19 ?_
        have hp_16 := hf14 _ (vp_lt hi_15)
        obtain ⟨c_17, hc_18, ec_19⟩ := hp_16
        rw [ec_19]
        obtain ⟨f20, hM20, hf20⟩ := hW.open_47 i6
        have hi_21 : vp_in (nI c_17) 40 := (inbN c_17 40 (by omega) (by omega))
        refine pg_iald hx hb hK hP i6.1 0 hM20 rfl hi_21 dX13_incomes_20 ?_
        have hp_22 := hf20 _ (vp_lt hi_21)
        obtain ⟨c_23, hc_24, ec_25⟩ := hp_22
        rw [ec_25]
        refine lv_iconst (v := 5) hx hb dX13_incomes_21 (by decide) ?_
        refine lv_icmp_eq (tgt := 28) hx hb dX13_incomes_22 (by decide) (fun c_26 => ?_) (fun c_26 => ?_)
        · have hz := rfl (a := 0)
          have n_27 : c_23 = 5 := (iEQ (a := c_23) (b := 5) (by omega) (by omega)).mp c_26
          refine lv_aload_n hx hb dX13_incomes_28 rfl (lv_at hl 1 rfl) ?_
          refine va_get (D := D) (ci := 13) (v := .ref z1) (C := RX13) (T := TX13) (N := 20) hx hb hg inG13 hown hK hP 0 rfl rfl 1 (by decide) (hg _ wd_739) (fun _ h9 => h9) rfl dX13_incomes_29 ?_
          refine lv_aload_n hx hb dX13_incomes_32 rfl (lv_at hl 1 rfl) ?_
          refine va_get (D := D) (ci := 13) (v := .ref z7) (C := RX13) (T := TX13) (N := 20) hx hb hg inG13 hown hK hP 0 rfl rfl 7 (by decide) (hg _ wd_760) (fun _ h9 => h9) rfl dX13_incomes_33 ?_
          refine lv_aload_n hx hb dX13_incomes_36 rfl (lv_at hl 2 rfl) ?_
          refine pg_getN (D := D) (ci := 12) (v := .ref v13) (C := RX12) (T := TX12) (N := 51) hx hb hg inG12 hown hK hP ik1.1 hM8 rfl 19 (by decide) (hN.use (Cond.fieldLinkNest RX13 72 RX12 "who" "[I" RX13) 28 rfl rfl) (fun _ h9 => h9) hv13 dX13_incomes_37 ?_
          refine lv_iload_n hx hb dX13_incomes_40 rfl (lv_at hl 0 rfl) ?_
          refine pg_iald hx hb hK hP hc13.1 0 hM14 rfl (inbN v3w4 24 (by omega) (by omega)) dX13_incomes_41 ?_
          rw [ec_19]
          obtain ⟨f28, hM28⟩ := hW.open_48 i7
          refine pg_iald hx hb hK hP i7.1 0 hM28 rfl (inbN c_17 40 (by omega) (by omega)) dX13_incomes_42 ?_
          refine lv_topi (fun f_29 ef_29 => ?_)
          obtain ⟨j_30, hj9, ej9⟩ := (R5.mv hR5 i6 i7 hF (by decide) (by decide)) ((nI c_17) : Int32).toNatClampNeg (by rw [nI_cl (by omega)]; omega) (by rw [show IFc (M_6 z6) = f20 from by rw [hM20]; rfl, ec_25, show c_23 = 5 from by omega]; rfl)
          rw [show IFc (M_6 z7) = f28 from by rw [hM28]; rfl, ← ef_29] at ej9
          obtain rfl : f_29 = nI j_30 := ej9
          obtain ⟨f31, hM31, hf31⟩ := hW.open_23 i1
          have hi_32 : vp_in (nI j_30) 8 := (inbN j_30 8 (by omega) (by omega))
          refine pg_aldq hx hb hK hP i1.1 9 hM31 rfl hi_32 dX13_incomes_43 ?_
          obtain ⟨b33, eb_34, hb_35⟩ := hf31 _ (vp_lt hi_32)
          rw [eb_34]
          refine lv_astore (lv' := [(4, .ref b33), (3, .int (nI v3w4)), (0, .ref za), (1, .ref k1), (2, .int (nI k2))]) hx hb dX13_incomes_44 hl (by decide) rfl (fun ls hl => ?_)
          refine lv_iload_n hx hb dX13_incomes_46 rfl (lv_at hl 4 rfl) ?_
          refine lv_aload hx hb dX13_incomes_47 (lv_at hl 0 rfl) ?_
          obtain ⟨fs36, hM36, hn36, hl36⟩ := hW.open_12 hb_35
          obtain ⟨v37, hv37, hc37⟩ : ∃ v : Int32, fs36[1]? = some (.int v : Value) ∧ (v = (-1) ∨ ∃ c : Nat, c < 1000 ∧ v = nI c) := hl36 1 (by decide)
          refine pg_getN (D := D) (ci := 12) (v := .int v37) (C := RX12) (T := TX12) (N := 51) hx hb hg inG12 hown hK hP hb_35.1 hM36 rfl 1 (by decide) (hN.use (Cond.fieldLinkNest RX13 80 RX12 "to" "I" RX13) 10 rfl rfl) (fun _ h9 => h9) hv37 dX13_incomes_49 ?_
          rcases hc37 with rfl | ⟨c_38, hc_39, rfl⟩
          · have hz := rfl (a := 0)
            refine lv_iconst (v := 1) hx hb dX13_incomes_52 (by decide) ?_
            refine lv_iadd hx hb dX13_incomes_53 ?_
            refine lv_topi (fun f_40 ef_40 => ?_)
            obtain rfl : f_40 = 0 := by rw [ef_40]; decide
            refine va_mmax hx hb (by rw [hml]; exact hl.1.symm) hown (hg _ wd_840) (hg _ wd_100) (hg _ wd_12) (hg _ wd_101) (Nat.le_trans (Nat.le_of_ble_eq_true rfl) hRf) (Nat.le_trans (Nat.le_of_ble_eq_true rfl) hRl) (Nat.le_trans (Nat.le_of_ble_eq_true rfl) hRc) (Nat.le_trans (Nat.le_of_ble_eq_true rfl) hRs) dX13_incomes_54 ?_
            refine lv_topi (fun f_41 ef_41 => ?_)
            obtain ⟨j_42, hj8, hm8⟩ := max2 (a := k2) (b := 0) ef_41 rfl rfl (by omega) (by omega)
            obtain rfl : f_41 = nI j_42 := hm8
            refine lv_istore (lv' := [(5, .int (nI j_42)), (4, .ref b33), (3, .int (nI v3w4)), (0, .ref za), (1, .ref k1), (2, .int (nI k2))]) hx hb dX13_incomes_57 hl (by decide) rfl (fun ls hl => ?_)
            refine lv_iload hx hb dX13_incomes_59 (lv_at hl 0 rfl) ?_
            refine lv_sipush (v := 1000) hx hb dX13_incomes_61 (by decide) ?_
            refine lv_icmp_ge (tgt := 87) hx hb dX13_incomes_64 (by decide) (fun c_43 => ?_) (fun c_43 => ?_)
            · have hz := rfl (a := 0)
              have n_44 : 1000 ≤ j_42 := (iLE (a := 1000) (b := j_42) (by omega) (by omega)).mp c_43
              refine lv_aload hx hb dX13_incomes_87 (lv_at hl 1 rfl) ?_
              refine lv_dup hx hb dX13_incomes_89 rfl ?_
              obtain ⟨v45, hv45⟩ : ∃ v : Int64, fs36[7]? = some (.long v : Value) := hl36 7 (by decide)
              refine pg_getN (D := D) (ci := 12) (v := .long v45) (C := RX12) (T := TX12) (N := 51) hx hb hg inG12 hown hK hP hb_35.1 hM36 rfl 7 (by decide) (hN.use (Cond.fieldLinkNest RX13 179 RX12 "loose" "J" RX13) 16 rfl rfl) (fun _ h9 => h9) hv45 dX13_incomes_90 ?_
              refine lv_aload_n hx hb dX13_incomes_93 rfl (lv_at hl 4 rfl) ?_
              obtain ⟨v46, hv46, hc46⟩ : ∃ v : Nat, fs8[33]? = some (.ref v : Value) ∧ isk K L v 92 24 := hl8 33 (by decide)
              refine pg_getN (D := D) (ci := 12) (v := .ref v46) (C := RX12) (T := TX12) (N := 51) hx hb hg inG12 hown hK hP ik1.1 hM8 rfl 33 (by decide) (hN.use (Cond.fieldLinkNest RX13 259 RX12 "dues" "[J" RX13) 42 rfl rfl) (fun _ h9 => h9) hv46 dX13_incomes_94 ?_
              refine lv_iload_n hx hb dX13_incomes_97 rfl (lv_at hl 2 rfl) ?_
              obtain ⟨f47, hM47⟩ := hW.open_92 hc46
              refine pg_lald hx hb hK hP hc46.1 1 hM47 rfl (inbN v3w4 24 (by omega) (by omega)) dX13_incomes_98 ?_
              refine lv_topl (fun f_48 ef_48 => ?_)
              refine lv_ladd hx hb dX13_incomes_99 ?_
              refine lv_topl (fun f_49 ef_49 => ?_)
              refine pg_putN (D := D) (ci := 12) (v := .long f_49) (ty := .long) (C := RX12) (T := TX12) (N := 51) hx hb hg inG12 tyX12 tyX12_ok nmX12 hown hK hP hD hS hb_35.1 hM36 rfl 7 (by decide) (hN.use (Cond.fieldLinkNest RX13 179 RX12 "loose" "J" RX13) 16 rfl rfl) (fun _ h9 => h9) rfl (by decide +kernel) rfl rfl (by rw [hn36]; decide) dX13_incomes_100 (fun H_50 locs hP hD hS => ?_)
              have hs_53 : (fs36.set 7 (.long f_49))[7]? = some (.long f_49) := List.getElem?_set_self (by rw [hn36]; decide)
              have hk_52 := fld12_set (k := 7) (w := .long f_49) hl36 (show fld12 K L 7 (fs36.set 7 (.long f_49)) from ⟨f_49, hs_53⟩)
              have hn_54 : (fs36.set 7 (.long f_49)).length = 51 := by rw [List.length_set]; exact hn36
              have hv_55 : (fs36.set 7 (.long f_49))[1]? = some (.int (-1)) := by rw [List.getElem?_set_ne (by decide)]; exact hv37
              obtain ⟨M_56, eM_56⟩ : ∃ M1 : Hp, M1 = va_up M_6 b33 (.inr (12, fs36.set 7 (.long f_49))) := ⟨_, rfl⟩
              have hP : va_P D vwCl ([(za, (b13_0 z0 z1 (nI z2) (nI z3) z4 z5 z6 z7 z8 z9 (nI z10) z11 z12 z13 z14 z15 (nI z16) z17 z18 z19))] ++ va_pl L M_56) H_50 := by rw [eM_56]; exact hP
              have hD : va_D A ([(za, (b13_0 z0 z1 (nI z2) (nI z3) z4 z5 z6 z7 z8 z9 (nI z10) z11 z12 z13 z14 z15 (nI z16) z17 z18 z19))] ++ va_pl L M_56) := by rw [eM_56]; exact hD
              have hW : WOM cy K L M_56 := by rw [eM_56]; exact hW.up_12 hb_35 ⟨_, rfl, hn_54, hk_52⟩
              have hF : fr K L [12, 15, 86] M M_56 := by rw [eM_56]; exact hF.up hb_35 (by decide)
              have hG : fG K L [7] M M_56 := by rw [eM_56]; exact hG.up hM36 (by decide)
              have hM_57 : M_56 b33 = .inr (12, fs36.set 7 (.long f_49)) := by rw [eM_56]; exact va_up_self _ _ _
              have hM_58 : M_56 v13 = .inl (cy 14, 24, .inl (f14)) := by rw [eM_56, va_up_ne _ _ (hc13.neT hb_35 (by decide))]; exact hM14
              have hM_59 : M_56 z6 = .inl (cy 14, 40, .inl (f20)) := by rw [eM_56, va_up_ne _ _ (i6.neT hb_35 (by decide))]; exact hM20
              have hM_60 : M_56 z7 = .inl (cy 14, 40, .inl (f28)) := by rw [eM_56, va_up_ne _ _ (i7.neT hb_35 (by decide))]; exact hM28
              have hM_61 : M_56 z1 = .inl (cy 23, 8, .inr (.inr (.inr (.inr (f31))))) := by rw [eM_56, va_up_ne _ _ (i1.neT hb_35 (by decide))]; exact hM31
              have hM_62 : M_56 v46 = .inl (cy 15, 24, .inr (.inl (f47))) := by rw [eM_56, va_up_ne _ _ (hc46.neT hb_35 (by decide))]; exact hM47
              refine lv_iinc (v := (nI (v3w4 + 1))) (lv' := [(3, .int (nI (v3w4 + 1))), (5, .int (nI j_42)), (4, .ref b33), (0, .ref za), (1, .ref k1), (2, .int (nI k2))]) hx hb dX13_incomes_103 hl (k := 2) rfl (nI_1 v3w4) (by decide) rfl (fun ls hl => ?_)
              refine lv_goto (tgt := 2) hx hb dX13_incomes_106 (by decide) ?_
              exact ih_2 (v3w4 + 1) M_56 H_50 _ _ (by omega) (by omega) hW hF hG hP hD hS (lv_sub hl [0, 3, 4, 5] rfl)
            · have hz := rfl (a := 0)
              have n_63 : ¬ (1000 ≤ j_42) := fun q => c_43 ((iLE (a := 1000) (b := j_42) (by omega) (by omega)).mpr q)
              refine lv_aload hx hb dX13_incomes_67 (lv_at hl 1 rfl) ?_
              obtain ⟨v64, hv64, hc64⟩ : ∃ v : Nat, fs36[6]? = some (.ref v : Value) ∧ isk K L v 86 1000 := hl36 6 (by decide)
              refine pg_getN (D := D) (ci := 12) (v := .ref v64) (C := RX12) (T := TX12) (N := 51) hx hb hg inG12 hown hK hP hb_35.1 hM36 rfl 6 (by decide) (hN.use (Cond.fieldLinkNest RX13 328 RX12 "income" "[J" RX13) 15 rfl rfl) (fun _ h9 => h9) hv64 dX13_incomes_69 ?_
              refine lv_iload hx hb dX13_incomes_72 (lv_at hl 0 rfl) ?_
              refine lv_dup2_11 hx hb dX13_incomes_74 rfl rfl ?_
              obtain ⟨f65, hM65⟩ := hW.open_86 hc64
              refine pg_lald hx hb hK hP hc64.1 1 hM65 rfl (inbN j_42 1000 (by omega) (by omega)) dX13_incomes_75 ?_
              refine lv_topl (fun f_66 ef_66 => ?_)
              refine lv_aload_n hx hb dX13_incomes_76 rfl (lv_at hl 4 rfl) ?_
              obtain ⟨v67, hv67, hc67⟩ : ∃ v : Nat, fs8[33]? = some (.ref v : Value) ∧ isk K L v 92 24 := hl8 33 (by decide)
              refine pg_getN (D := D) (ci := 12) (v := .ref v67) (C := RX12) (T := TX12) (N := 51) hx hb hg inG12 hown hK hP ik1.1 hM8 rfl 33 (by decide) (hN.use (Cond.fieldLinkNest RX13 259 RX12 "dues" "[J" RX13) 42 rfl rfl) (fun _ h9 => h9) hv67 dX13_incomes_77 ?_
              refine lv_iload_n hx hb dX13_incomes_80 rfl (lv_at hl 2 rfl) ?_
              obtain ⟨f68, hM68⟩ := hW.open_92 hc67
              refine pg_lald hx hb hK hP hc67.1 1 hM68 rfl (inbN v3w4 24 (by omega) (by omega)) dX13_incomes_81 ?_
              refine lv_topl (fun f_69 ef_69 => ?_)
              refine lv_ladd hx hb dX13_incomes_82 ?_
              refine lv_topl (fun f_70 ef_70 => ?_)
              refine pg_last hx hb hK hP hD hS hc64.1 1 hM65 rfl (inbN j_42 1000 (by omega) (by omega)) dX13_incomes_83 (fun H_71 locs hP hD hS => ?_)
              obtain ⟨M_72, eM_72⟩ : ∃ M1 : Hp, M1 = va_up M_6 v64 (.inl (cy 15, 1000, .inr (.inl (vp_updL f65 ((nI j_42) : Int32).toNatClampNeg f_70)))) := ⟨_, rfl⟩
              have hP : va_P D vwCl ([(za, (b13_0 z0 z1 (nI z2) (nI z3) z4 z5 z6 z7 z8 z9 (nI z10) z11 z12 z13 z14 z15 (nI z16) z17 z18 z19))] ++ va_pl L M_72) H_71 := by rw [eM_72]; exact hP
              have hD : va_D A ([(za, (b13_0 z0 z1 (nI z2) (nI z3) z4 z5 z6 z7 z8 z9 (nI z10) z11 z12 z13 z14 z15 (nI z16) z17 z18 z19))] ++ va_pl L M_72) := by rw [eM_72]; exact hD
              have hW : WOM cy K L M_72 := by rw [eM_72]; exact hW.up_86 hc64 ⟨_, rfl⟩
              have hF : fr K L [12, 15, 86] M M_72 := by rw [eM_72]; exact hF.up hc64 (by decide)
              have hG : fG K L [7] M M_72 := by rw [eM_72]; exact hG.arr hc64 (by decide)
              have hM_73 : M_72 v64 = .inl (cy 15, 1000, .inr (.inl (vp_updL f65 ((nI j_42) : Int32).toNatClampNeg f_70))) := by rw [eM_72]; exact va_up_self _ _ _
              have hM_74 : M_72 k1 = .inr (12, fs8) := by rw [eM_72, va_up_ne _ _ (ik1.neT hc64 (by decide))]; exact hM8
              have hM_75 : M_72 v13 = .inl (cy 14, 24, .inl (f14)) := by rw [eM_72, va_up_ne _ _ (hc13.neT hc64 (by decide))]; exact hM14
              have hM_76 : M_72 z6 = .inl (cy 14, 40, .inl (f20)) := by rw [eM_72, va_up_ne _ _ (i6.neT hc64 (by decide))]; exact hM20
              have hM_77 : M_72 z7 = .inl (cy 14, 40, .inl (f28)) := by rw [eM_72, va_up_ne _ _ (i7.neT hc64 (by decide))]; exact hM28
              have hM_78 : M_72 z1 = .inl (cy 23, 8, .inr (.inr (.inr (.inr (f31))))) := by rw [eM_72, va_up_ne _ _ (i1.neT hc64 (by decide))]; exact hM31
              have hM_79 : M_72 b33 = .inr (12, fs36) := by rw [eM_72, va_up_ne _ _ (hb_35.neT hc64 (by decide))]; exact hM36
              have hM_80 : M_72 v67 = .inl (cy 15, 24, .inr (.inl (f68))) := by rw [eM_72, va_up_ne _ _ (hc67.neT hc64 (by decide))]; exact hM68
              obtain ⟨f_81, ef_81⟩ : ∃ f : Nat → Int64, f = vp_updL f65 ((nI j_42) : Int32).toNatClampNeg f_70 := ⟨_, rfl⟩
              rw [← ef_81] at hM_73
              refine lv_goto (tgt := 103) hx hb dX13_incomes_84 (by decide) ?_
              refine lv_iinc (v := (nI (v3w4 + 1))) (lv' := [(3, .int (nI (v3w4 + 1))), (5, .int (nI j_42)), (4, .ref b33), (0, .ref za), (1, .ref k1), (2, .int (nI k2))]) hx hb dX13_incomes_103 hl (k := 2) rfl (nI_1 v3w4) (by decide) rfl (fun ls hl => ?_)
              refine lv_goto (tgt := 2) hx hb dX13_incomes_106 (by decide) ?_
              exact ih_2 (v3w4 + 1) M_72 H_71 _ _ (by omega) (by omega) hW hF hG hP hD hS (lv_sub hl [0, 3, 4, 5] rfl)
          · have hz := rfl (a := 0)
            refine lv_iconst (v := 1) hx hb dX13_incomes_52 (by decide) ?_
            refine lv_iadd hx hb dX13_incomes_53 ?_
            refine lv_topi (fun f_82 ef_82 => ?_)
            obtain rfl : f_82 = (nI (c_38 + 1)) := ef_82.trans (nI_add c_38 1)
            refine va_mmax hx hb (by rw [hml]; exact hl.1.symm) hown (hg _ wd_840) (hg _ wd_100) (hg _ wd_12) (hg _ wd_101) (Nat.le_trans (Nat.le_of_ble_eq_true rfl) hRf) (Nat.le_trans (Nat.le_of_ble_eq_true rfl) hRl) (Nat.le_trans (Nat.le_of_ble_eq_true rfl) hRc) (Nat.le_trans (Nat.le_of_ble_eq_true rfl) hRs) dX13_incomes_54 ?_
            refine lv_topi (fun f_83 ef_83 => ?_)
            obtain ⟨j_84, hj8, hm8⟩ := max2 (a := k2) (b := (c_38 + 1)) ef_83 rfl rfl (by omega) (by omega)
            obtain rfl : f_83 = nI j_84 := hm8
            refine lv_istore (lv' := [(5, .int (nI j_84)), (4, .ref b33), (3, .int (nI v3w4)), (0, .ref za), (1, .ref k1), (2, .int (nI k2))]) hx hb dX13_incomes_57 hl (by decide) rfl (fun ls hl => ?_)
            refine lv_iload hx hb dX13_incomes_59 (lv_at hl 0 rfl) ?_
            refine lv_sipush (v := 1000) hx hb dX13_incomes_61 (by decide) ?_
            refine lv_icmp_ge (tgt := 87) hx hb dX13_incomes_64 (by decide) (fun c_85 => ?_) (fun c_85 => ?_)
            · have hz := rfl (a := 0)
              have n_86 : 1000 ≤ j_84 := (iLE (a := 1000) (b := j_84) (by omega) (by omega)).mp c_85
              refine lv_aload hx hb dX13_incomes_87 (lv_at hl 1 rfl) ?_
              refine lv_dup hx hb dX13_incomes_89 rfl ?_
              obtain ⟨v87, hv87⟩ : ∃ v : Int64, fs36[7]? = some (.long v : Value) := hl36 7 (by decide)
              refine pg_getN (D := D) (ci := 12) (v := .long v87) (C := RX12) (T := TX12) (N := 51) hx hb hg inG12 hown hK hP hb_35.1 hM36 rfl 7 (by decide) (hN.use (Cond.fieldLinkNest RX13 179 RX12 "loose" "J" RX13) 16 rfl rfl) (fun _ h9 => h9) hv87 dX13_incomes_90 ?_
              refine lv_aload_n hx hb dX13_incomes_93 rfl (lv_at hl 4 rfl) ?_
              obtain ⟨v88, hv88, hc88⟩ : ∃ v : Nat, fs8[33]? = some (.ref v : Value) ∧ isk K L v 92 24 := hl8 33 (by decide)
              refine pg_getN (D := D) (ci := 12) (v := .ref v88) (C := RX12) (T := TX12) (N := 51) hx hb hg inG12 hown hK hP ik1.1 hM8 rfl 33 (by decide) (hN.use (Cond.fieldLinkNest RX13 259 RX12 "dues" "[J" RX13) 42 rfl rfl) (fun _ h9 => h9) hv88 dX13_incomes_94 ?_
              refine lv_iload_n hx hb dX13_incomes_97 rfl (lv_at hl 2 rfl) ?_
              obtain ⟨f89, hM89⟩ := hW.open_92 hc88
              refine pg_lald hx hb hK hP hc88.1 1 hM89 rfl (inbN v3w4 24 (by omega) (by omega)) dX13_incomes_98 ?_
              refine lv_topl (fun f_90 ef_90 => ?_)
              refine lv_ladd hx hb dX13_incomes_99 ?_
              refine lv_topl (fun f_91 ef_91 => ?_)
              refine pg_putN (D := D) (ci := 12) (v := .long f_91) (ty := .long) (C := RX12) (T := TX12) (N := 51) hx hb hg inG12 tyX12 tyX12_ok nmX12 hown hK hP hD hS hb_35.1 hM36 rfl 7 (by decide) (hN.use (Cond.fieldLinkNest RX13 179 RX12 "loose" "J" RX13) 16 rfl rfl) (fun _ h9 => h9) rfl (by decide +kernel) rfl rfl (by rw [hn36]; decide) dX13_incomes_100 (fun H_92 locs hP hD hS => ?_)
              have hs_95 : (fs36.set 7 (.long f_91))[7]? = some (.long f_91) := List.getElem?_set_self (by rw [hn36]; decide)
              have hk_94 := fld12_set (k := 7) (w := .long f_91) hl36 (show fld12 K L 7 (fs36.set 7 (.long f_91)) from ⟨f_91, hs_95⟩)
              have hn_96 : (fs36.set 7 (.long f_91)).length = 51 := by rw [List.length_set]; exact hn36
              have hv_97 : (fs36.set 7 (.long f_91))[1]? = some (.int (nI c_38)) := by rw [List.getElem?_set_ne (by decide)]; exact hv37
              obtain ⟨M_98, eM_98⟩ : ∃ M1 : Hp, M1 = va_up M_6 b33 (.inr (12, fs36.set 7 (.long f_91))) := ⟨_, rfl⟩
              have hP : va_P D vwCl ([(za, (b13_0 z0 z1 (nI z2) (nI z3) z4 z5 z6 z7 z8 z9 (nI z10) z11 z12 z13 z14 z15 (nI z16) z17 z18 z19))] ++ va_pl L M_98) H_92 := by rw [eM_98]; exact hP
              have hD : va_D A ([(za, (b13_0 z0 z1 (nI z2) (nI z3) z4 z5 z6 z7 z8 z9 (nI z10) z11 z12 z13 z14 z15 (nI z16) z17 z18 z19))] ++ va_pl L M_98) := by rw [eM_98]; exact hD
              have hW : WOM cy K L M_98 := by rw [eM_98]; exact hW.up_12 hb_35 ⟨_, rfl, hn_96, hk_94⟩
              have hF : fr K L [12, 15, 86] M M_98 := by rw [eM_98]; exact hF.up hb_35 (by decide)
              have hG : fG K L [7] M M_98 := by rw [eM_98]; exact hG.up hM36 (by decide)
              have hM_99 : M_98 b33 = .inr (12, fs36.set 7 (.long f_91)) := by rw [eM_98]; exact va_up_self _ _ _
              have hM_100 : M_98 v13 = .inl (cy 14, 24, .inl (f14)) := by rw [eM_98, va_up_ne _ _ (hc13.neT hb_35 (by decide))]; exact hM14
              have hM_101 : M_98 z6 = .inl (cy 14, 40, .inl (f20)) := by rw [eM_98, va_up_ne _ _ (i6.neT hb_35 (by decide))]; exact hM20
              have hM_102 : M_98 z7 = .inl (cy 14, 40, .inl (f28)) := by rw [eM_98, va_up_ne _ _ (i7.neT hb_35 (by decide))]; exact hM28
              have hM_103 : M_98 z1 = .inl (cy 23, 8, .inr (.inr (.inr (.inr (f31))))) := by rw [eM_98, va_up_ne _ _ (i1.neT hb_35 (by decide))]; exact hM31
              have hM_104 : M_98 v88 = .inl (cy 15, 24, .inr (.inl (f89))) := by rw [eM_98, va_up_ne _ _ (hc88.neT hb_35 (by decide))]; exact hM89
              refine lv_iinc (v := (nI (v3w4 + 1))) (lv' := [(3, .int (nI (v3w4 + 1))), (5, .int (nI j_84)), (4, .ref b33), (0, .ref za), (1, .ref k1), (2, .int (nI k2))]) hx hb dX13_incomes_103 hl (k := 2) rfl (nI_1 v3w4) (by decide) rfl (fun ls hl => ?_)
              refine lv_goto (tgt := 2) hx hb dX13_incomes_106 (by decide) ?_
              exact ih_2 (v3w4 + 1) M_98 H_92 _ _ (by omega) (by omega) hW hF hG hP hD hS (lv_sub hl [0, 3, 4, 5] rfl)
            · have hz := rfl (a := 0)
              have n_105 : ¬ (1000 ≤ j_84) := fun q => c_85 ((iLE (a := 1000) (b := j_84) (by omega) (by omega)).mpr q)
              refine lv_aload hx hb dX13_incomes_67 (lv_at hl 1 rfl) ?_
              obtain ⟨v106, hv106, hc106⟩ : ∃ v : Nat, fs36[6]? = some (.ref v : Value) ∧ isk K L v 86 1000 := hl36 6 (by decide)
              refine pg_getN (D := D) (ci := 12) (v := .ref v106) (C := RX12) (T := TX12) (N := 51) hx hb hg inG12 hown hK hP hb_35.1 hM36 rfl 6 (by decide) (hN.use (Cond.fieldLinkNest RX13 328 RX12 "income" "[J" RX13) 15 rfl rfl) (fun _ h9 => h9) hv106 dX13_incomes_69 ?_
              refine lv_iload hx hb dX13_incomes_72 (lv_at hl 0 rfl) ?_
              refine lv_dup2_11 hx hb dX13_incomes_74 rfl rfl ?_
              obtain ⟨f107, hM107⟩ := hW.open_86 hc106
              refine pg_lald hx hb hK hP hc106.1 1 hM107 rfl (inbN j_84 1000 (by omega) (by omega)) dX13_incomes_75 ?_
              refine lv_topl (fun f_108 ef_108 => ?_)
              refine lv_aload_n hx hb dX13_incomes_76 rfl (lv_at hl 4 rfl) ?_
              obtain ⟨v109, hv109, hc109⟩ : ∃ v : Nat, fs8[33]? = some (.ref v : Value) ∧ isk K L v 92 24 := hl8 33 (by decide)
              refine pg_getN (D := D) (ci := 12) (v := .ref v109) (C := RX12) (T := TX12) (N := 51) hx hb hg inG12 hown hK hP ik1.1 hM8 rfl 33 (by decide) (hN.use (Cond.fieldLinkNest RX13 259 RX12 "dues" "[J" RX13) 42 rfl rfl) (fun _ h9 => h9) hv109 dX13_incomes_77 ?_
              refine lv_iload_n hx hb dX13_incomes_80 rfl (lv_at hl 2 rfl) ?_
              obtain ⟨f110, hM110⟩ := hW.open_92 hc109
              refine pg_lald hx hb hK hP hc109.1 1 hM110 rfl (inbN v3w4 24 (by omega) (by omega)) dX13_incomes_81 ?_
              refine lv_topl (fun f_111 ef_111 => ?_)
              refine lv_ladd hx hb dX13_incomes_82 ?_
              refine lv_topl (fun f_112 ef_112 => ?_)
              refine pg_last hx hb hK hP hD hS hc106.1 1 hM107 rfl (inbN j_84 1000 (by omega) (by omega)) dX13_incomes_83 (fun H_113 locs hP hD hS => ?_)
              obtain ⟨M_114, eM_114⟩ : ∃ M1 : Hp, M1 = va_up M_6 v106 (.inl (cy 15, 1000, .inr (.inl (vp_updL f107 ((nI j_84) : Int32).toNatClampNeg f_112)))) := ⟨_, rfl⟩
              have hP : va_P D vwCl ([(za, (b13_0 z0 z1 (nI z2) (nI z3) z4 z5 z6 z7 z8 z9 (nI z10) z11 z12 z13 z14 z15 (nI z16) z17 z18 z19))] ++ va_pl L M_114) H_113 := by rw [eM_114]; exact hP
              have hD : va_D A ([(za, (b13_0 z0 z1 (nI z2) (nI z3) z4 z5 z6 z7 z8 z9 (nI z10) z11 z12 z13 z14 z15 (nI z16) z17 z18 z19))] ++ va_pl L M_114) := by rw [eM_114]; exact hD
              have hW : WOM cy K L M_114 := by rw [eM_114]; exact hW.up_86 hc106 ⟨_, rfl⟩
              have hF : fr K L [12, 15, 86] M M_114 := by rw [eM_114]; exact hF.up hc106 (by decide)
              have hG : fG K L [7] M M_114 := by rw [eM_114]; exact hG.arr hc106 (by decide)
              have hM_115 : M_114 v106 = .inl (cy 15, 1000, .inr (.inl (vp_updL f107 ((nI j_84) : Int32).toNatClampNeg f_112))) := by rw [eM_114]; exact va_up_self _ _ _
              have hM_116 : M_114 k1 = .inr (12, fs8) := by rw [eM_114, va_up_ne _ _ (ik1.neT hc106 (by decide))]; exact hM8
              have hM_117 : M_114 v13 = .inl (cy 14, 24, .inl (f14)) := by rw [eM_114, va_up_ne _ _ (hc13.neT hc106 (by decide))]; exact hM14
              have hM_118 : M_114 z6 = .inl (cy 14, 40, .inl (f20)) := by rw [eM_114, va_up_ne _ _ (i6.neT hc106 (by decide))]; exact hM20
              have hM_119 : M_114 z7 = .inl (cy 14, 40, .inl (f28)) := by rw [eM_114, va_up_ne _ _ (i7.neT hc106 (by decide))]; exact hM28
              have hM_120 : M_114 z1 = .inl (cy 23, 8, .inr (.inr (.inr (.inr (f31))))) := by rw [eM_114, va_up_ne _ _ (i1.neT hc106 (by decide))]; exact hM31
              have hM_121 : M_114 b33 = .inr (12, fs36) := by rw [eM_114, va_up_ne _ _ (hb_35.neT hc106 (by decide))]; exact hM36
              have hM_122 : M_114 v109 = .inl (cy 15, 24, .inr (.inl (f110))) := by rw [eM_114, va_up_ne _ _ (hc109.neT hc106 (by decide))]; exact hM110
              obtain ⟨f_123, ef_123⟩ : ∃ f : Nat → Int64, f = vp_updL f107 ((nI j_84) : Int32).toNatClampNeg f_112 := ⟨_, rfl⟩
              rw [← ef_123] at hM_115
              refine lv_goto (tgt := 103) hx hb dX13_incomes_84 (by decide) ?_
              refine lv_iinc (v := (nI (v3w4 + 1))) (lv' := [(3, .int (nI (v3w4 + 1))), (5, .int (nI j_84)), (4, .ref b33), (0, .ref za), (1, .ref k1), (2, .int (nI k2))]) hx hb dX13_incomes_103 hl (k := 2) rfl (nI_1 v3w4) (by decide) rfl (fun ls hl => ?_)
              refine lv_goto (tgt := 2) hx hb dX13_incomes_106 (by decide) ?_
              exact ih_2 (v3w4 + 1) M_114 H_113 _ _ (by omega) (by omega) hW hF hG hP hD hS (lv_sub hl [0, 3, 4, 5] rfl)
        · have hz := rfl (a := 0)
          have n_124 : ¬ (c_23 = 5) := fun q => c_26 ((iEQ (a := c_23) (b := 5) (by omega) (by omega)).mpr q)
          refine lv_goto (tgt := 103) hx hb dX13_incomes_25 (by decide) ?_
          refine lv_iinc (v := (nI (v3w4 + 1))) (lv' := [(3, .int (nI (v3w4 + 1))), (0, .ref za), (1, .ref k1), (2, .int (nI k2))]) hx hb dX13_incomes_103 hl (k := 0) rfl (nI_1 v3w4) (by decide) rfl (fun ls hl => ?_)
          refine lv_goto (tgt := 2) hx hb dX13_incomes_106 (by decide) ?_
          exact ih_2 (v3w4 + 1) M_6 H_7 _ _ (by omega) (by omega) hW hF hG hP hD hS (lv_sub hl [0, 1, 2, 3] rfl)
  exact key_1 (24 - 0 + 1) 0 M s.heap _ _ (by omega) (by omega) hW hF hG hP hD hS (lv_sub hl [0, 1, 2, 3] rfl)
set_option maxHeartbeats 4000000 in
set_option maxRecDepth 100000 in
theorem g_X13_stretch (l : Launch) (D : va_G) (cy : Nat → ClassId) (K : Kp) (L : List Nat) (M : Hp) (sz : Nat) (za : Nat) (z0 : Int32) (z1 : Nat) (z2 : Nat) (z3 : Nat) (z4 : Int32) (z5 : Int32) (z6 : Nat) (z7 : Nat) (z8 : Nat) (z9 : Nat) (z10 : Nat) (z11 : Nat) (z12 : Nat) (z13 : Nat) (z14 : Nat) (z15 : Nat) (z16 : Nat) (z17 : Nat) (z18 : Int32) (z19 : Nat) (k1 : Nat) (k2 : Nat) (k3 : Int32) (hW : WOM cy K L M) (i1 : isk K L z1 23 8) (b2 : z2 ≤ 8) (b3 : z3 ≤ 40) (i6 : isk K L z6 47 40) (i7 : isk K L z7 48 40) (i8 : isk K L z8 49 8) (i9 : isk K L z9 50 8) (b10 : z10 ≤ 8) (i11 : isk K L z11 32 24) (i12 : isk K L z12 14 24) (i13 : isk K L z13 97 24) (i14 : isk K L z14 98 24) (i15 : isk K L z15 99 24) (b16 : z16 ≤ 24) (i17 : isk K L z17 14 24) (i19 : isk K L z19 15 25) (ik1 : isk K L k1 12 0) (nk2 : k2 < 120) (hO : OWN K L M) (hRM : 1 ≤ fx M k1 11) (hD1 : (ax M k1 34 0).toInt ≤ fx M k1 0) (hs0 : fx M k1 0 ≤ (ax M k1 44 k2).toInt) (hs1 : (ax M k1 44 k2).toInt + (ax M k1 45 k2).toInt ≤ 1000) : Met l yX13_stretch (wsM yX13_stretch cX13_stretch 13 none) ({ frames := 5, cells := 0, slots := 0, locals := 133 }) (va_Pc [.ref za, .ref k1, .int (nI k2), .int k3] (PG D cy [(za, (b13_0 z0 z1 (nI z2) (nI z3) z4 z5 z6 z7 z8 z9 (nI z10) z11 z12 z13 z14 z15 (nI z16) z17 z18 z19))] L M sz)) (va_Qv (fun (M9 : Hp) => WOM cy K L M9 ∧ fr K L [14, 15, 32, 83, 89, 92, 93, 94, 95, 96, 97, 98, 99] M M9 ∧ fG K L [] M M9 ∧ (True)) (fun M9 t => ∃ (w16 : Nat), w16 ≤ 24 ∧ PQ D [(za, (b13_0 z0 z1 (nI z2) (nI z3) z4 z5 z6 z7 z8 z9 (nI z10) z11 z12 z13 z14 z15 (nI w16) z17 z18 z19))] L M9 (va_A ([(za, (b13_0 z0 z1 (nI z2) (nI z3) z4 z5 z6 z7 z8 z9 (nI z10) z11 z12 z13 z14 z15 (nI z16) z17 z18 z19))] ++ va_pl L M) sz) t) (va_A ([(za, (b13_0 z0 z1 (nI z2) (nI z3) z4 z5 z6 z7 z8 z9 (nI z10) z11 z12 z13 z14 z15 (nI z16) z17 z18 z19))] ++ va_pl L M) sz)) 0 0 (va_A ([(za, (b13_0 z0 z1 (nI z2) (nI z3) z4 z5 z6 z7 z8 z9 (nI z10) z11 z12 z13 z14 z15 (nI z16) z17 z18 z19))] ++ va_pl L M) sz) := by
  refine Met.ofW (cc := cX13_stretch) (maxL := 13) (ret := none) (by decide) rfl ?_
  intro p e s m args below meth c s₁ B hml hv
  obtain ⟨rfl, hsz, hP, hK, hD0, hN⟩ := hv
  have hx := B.exec
  have hb := B.bytes
  have hr := B.returns
  have hts := atoms_spec (ws := (wsM yX13_stretch cX13_stretch 13 none)) B.pre
  have hg : ∀ w ∈ lw_good, w.before _ s = true := fun w h => hts w (List.mem_cons_of_mem _ h)
  have hown : s.vm.findClass RX13 = some m.cls := findClass_of_methodNamed B.named
  have hlocks := B.notSynchronized
  subst hsz
  have hD := hD0.self (sz := s.heap.size)
  generalize hAe : va_A ([(za, (b13_0 z0 z1 (nI z2) (nI z3) z4 z5 z6 z7 z8 z9 (nI z10) z11 z12 z13 z14 z15 (nI z16) z17 z18 z19))] ++ va_pl L M) s.heap.size = A at hD ⊢
  have hA : ∀ q : Nat, s.heap.size ≤ q → A q := fun q h => by rw [← hAe]; exact Or.inr h
  have hS : va_S A s.heap s.heap [] := va_S.rf
  have hl := lv_entry ([.ref za, .ref k1, .int (nI k2), .int k3]) (n := 13) (Nat.le_of_ble_eq_true rfl)
  rw [lg_entry_eq]
  generalize (lg_sl ([.ref za, .ref k1, .int (nI k2), .int k3]) ++ List.replicate (13 - (lg_sl ([.ref za, .ref k1, .int (nI k2), .int k3])).length) Slot.unset).toArray = ls at hl ⊢
  refine W.nameQ (fun Q hQ => ?_)
  refine W.nameR (fun R hR => ?_)
  have hRf : 5 ≤ R.frames := by rw [hR]; exact Nat.le_of_ble_eq_true rfl
  have hRl : 133 ≤ R.locals := by rw [hR]; exact Nat.le_of_ble_eq_true rfl
  have hRc : 0 ≤ R.cells := by rw [hR]; exact Nat.le_of_ble_eq_true rfl
  have hRs : 0 ≤ R.slots := by rw [hR]; exact Nat.le_of_ble_eq_true rfl
  have hF : fr K L [14, 15, 32, 83, 89, 92, 93, 94, 95, 96, 97, 98, 99] M M := fr.rf
  have hG : fG K L [] M M := fG.rf
  have hl : lv_has ls 13 [(0, .ref za), (1, .ref k1), (2, .int (nI k2)), (3, .int k3)] := hl
  have hW0 := hW
  have hV : VW K L M M k1 (fx M k1) (ax M k1) := VW.rf k1 hO
  refine lv_aload_n hx hb dX13_stretch_0 rfl (lv_at hl 1 rfl) ?_
  obtain ⟨fs1, hM1, hn1, hl1⟩ := hW.open_12 ik1
  obtain ⟨v2, hv2, hc2⟩ : ∃ v : Nat, fs1[44]? = some (.ref v : Value) ∧ isk K L v 45 120 := hl1 44 (by decide)
  refine pg_getN (D := D) (ci := 12) (v := .ref v2) (C := RX12) (T := TX12) (N := 51) hx hb hg inG12 hown hK hP ik1.1 hM1 rfl 44 (by decide) (hN.use (Cond.fieldLinkNest RX13 265 RX12 "stretchDay" "[I" RX13) 53 rfl rfl) (fun _ h9 => h9) hv2 dX13_stretch_1 ?_
  refine lv_iload_n hx hb dX13_stretch_4 rfl (lv_at hl 2 rfl) ?_
  obtain ⟨f3, hM3, hf3⟩ := hW.open_45 hc2
  have hi_4 : vp_in (nI k2) 120 := (inbN k2 120 (by omega) (by omega))
  refine pg_iald hx hb hK hP hc2.1 0 hM3 rfl hi_4 dX13_stretch_5 ?_
  have hp_5 := hf3 _ (vp_lt hi_4)
  obtain ⟨c_6, hc_7, ec_8⟩ := hp_5
  rw [ec_8]
  refine lv_istore (lv' := [(4, .int (nI c_6)), (0, .ref za), (1, .ref k1), (2, .int (nI k2)), (3, .int k3)]) hx hb dX13_stretch_6 hl (by decide) rfl (fun ls hl => ?_)
  refine lv_aload_n hx hb dX13_stretch_8 rfl (lv_at hl 2 rfl) ?_
  obtain ⟨v9, hv9, hc9⟩ : ∃ v : Nat, fs1[45]? = some (.ref v : Value) ∧ isk K L v 46 120 := hl1 45 (by decide)
  refine pg_getN (D := D) (ci := 12) (v := .ref v9) (C := RX12) (T := TX12) (N := 51) hx hb hg inG12 hown hK hP ik1.1 hM1 rfl 45 (by decide) (hN.use (Cond.fieldLinkNest RX13 268 RX12 "stretchDays" "[I" RX13) 54 rfl rfl) (fun _ h9 => h9) hv9 dX13_stretch_9 ?_
  refine lv_iload_n hx hb dX13_stretch_12 rfl (lv_at hl 3 rfl) ?_
  obtain ⟨f10, hM10, hf10⟩ := hW.open_46 hc9
  have hi_11 : vp_in (nI k2) 120 := (inbN k2 120 (by omega) (by omega))
  refine pg_iald hx hb hK hP hc9.1 0 hM10 rfl hi_11 dX13_stretch_13 ?_
  have hp_12 := hf10 _ (vp_lt hi_11)
  obtain ⟨c_13, hc_14, ec_15⟩ := hp_12
  rw [ec_15]
  refine lv_istore (lv' := [(5, .int (nI c_13)), (4, .int (nI c_6)), (0, .ref za), (1, .ref k1), (2, .int (nI k2)), (3, .int k3)]) hx hb dX13_stretch_14 hl (by decide) rfl (fun ls hl => ?_)
  obtain ⟨v16, hv16, hc16⟩ : ∃ v : Nat, fs1[0]? = some (.int (nI v) : Value) ∧ v ≤ 999 := hl1 0 (by decide)
  have hx0 : (fx M k1 0) = ((v16 : Nat) : Int) := (congrFun hV.2.1 0).symm.trans ((fx_of hM1 rfl hv16).trans (nI_toInt (by omega)))
  have hy44 : (ax M k1 44) = f3 := (congrFun hV.2.2.1 44).symm.trans (ax_of hM1 (by decide) hv2 hM3)
  have hy45 : (ax M k1 45) = f10 := (congrFun hV.2.2.1 45).symm.trans (ax_of hM1 (by decide) hv9 hM10)
  have hdy : fx M k1 0 ≤ ((nI c_6) : Int32).toInt := by
    have h := ec_8
    rw [nI_cl (by omega)] at h
    rw [← h, ← hy44]
    exact hs0
  have hdd : c_6 + c_13 ≤ 1000 := by
    have h := ec_8
    have h2 := ec_15
    rw [nI_cl (by omega)] at h h2
    have h3 := hs1
    rw [hy44, hy45, h, h2, nI_toInt (by omega), nI_toInt (by omega)] at h3
    omega
  refine lv_aload_n hx hb dX13_stretch_16 rfl (lv_at hl 3 rfl) ?_
  refine lv_iload hx hb dX13_stretch_17 (lv_at hl 1 rfl) ?_
  have hPc : va_P D vwCl ([] ++ va_pl L M) s.heap := hP.part (cx := []) [] rfl
  have hDc : va_D A ([] ++ va_pl L M) := hD.part (cx := []) [] (by decide) rfl
  have hFc : ∀ q, va_A ([] ++ va_pl L M) s.heap.size q → A q := pg_free hDc hS hA
  have hx0 : (fx M k1 0) = ((v16 : Nat) : Int) := (congrFun hV.2.1 0).symm.trans ((fx_of hM1 rfl hv16).trans (nI_toInt (by omega)))
  obtain ⟨v17, hv17, hc17⟩ : ∃ v : Nat, fs1[11]? = some (.int (nI v) : Value) ∧ v ≤ 16 := hl1 11 (by decide)
  have hx11 : (fx M k1 11) = ((v17 : Nat) : Int) := (congrFun hV.2.1 11).symm.trans ((fx_of hM1 rfl hv17).trans (nI_toInt (by omega)))
  obtain ⟨v18, hv18, hc18⟩ : ∃ v : Nat, fs1[34]? = some (.ref v : Value) ∧ isk K L v 43 16 := hl1 34 (by decide)
  obtain ⟨f19, hM19⟩ := hW.open_43 hc18
  have hy34 : (ax M k1 34) = f19 := (congrFun hV.2.2.1 34).symm.trans (ax_of hM1 (by decide) hv18 hM19)
  refine va_calli (va_runV (As := [.int (nI c_6)]) (rest := []) ⟨hx, hb, hml, hown, hg⟩ (r_ruleOnP l D cy K L M s.heap.size k1 (nI c_6)  hW ik1 ⟨_, _, _, _, hM1, hv17, by omega, by omega, hv18, hc18, hM19, rldp hy34 hD1 hdy⟩) (cwV 1 hg (gV wd_815 wd_816 wd_817 wd_737 wd_818) rfl rfl rfl (by decide +kernel) ⟨(Nat.le_trans (Nat.le_of_ble_eq_true rfl) hRf), (Nat.le_trans (Nat.le_of_ble_eq_true rfl) hRl)⟩) ⟨PG.blind, pg_recv hK hP ik1.1 hM1 rfl, fun U hU hW => ⟨rfl, PG.at hPc hK hDc hN hU hW⟩⟩ rfl rfl hl.1 rfl (lv_room (Nat.le_of_ble_eq_true rfl)) dX13_stretch_19 ⟨(Nat.le_trans (Nat.le_of_ble_eq_true rfl) hRc), (Nat.le_trans (Nat.le_of_ble_eq_true rfl) hRs)⟩) hS (fun q _ h => hFc q h) hFc (fun r_21 M_22 t H_20 locs ht hvm hw hB hz1 hk1 hS => ?_)
  have hp_23 := hw
  obtain ⟨hP1, hD1⟩ := hB
  rw [ht] at hP1
  obtain ⟨hP, hD⟩ := va_joinP (X := [(za, (b13_0 z0 z1 (nI z2) (nI z3) z4 z5 z6 z7 z8 z9 (nI z10) z11 z12 z13 z14 z15 (nI z16) z17 z18 z19))]) (cx := []) (wr := [(za, (b13_0 z0 z1 (nI z2) (nI z3) z4 z5 z6 z7 z8 z9 (nI z10) z11 z12 z13 z14 z15 (nI z16) z17 z18 z19))]) (rx := []) (pl := va_pl L M) (pl1 := va_pl L M) hP hD [] [0] rfl rfl (by decide) (by decide) hk1 hFc hP1 hD1
  have hP : va_P D vwCl ([(za, (b13_0 z0 z1 (nI z2) (nI z3) z4 z5 z6 z7 z8 z9 (nI z10) z11 z12 z13 z14 z15 (nI z16) z17 z18 z19))] ++ va_pl L M) H_20 := hP
  have hD : va_D A ([(za, (b13_0 z0 z1 (nI z2) (nI z3) z4 z5 z6 z7 z8 z9 (nI z10) z11 z12 z13 z14 z15 (nI z16) z17 z18 z19))] ++ va_pl L M) := hD
  obtain ⟨j_24, rfl, c_25⟩ := hp_23
  refine lv_istore (lv' := [(6, .int (nI j_24)), (5, .int (nI c_13)), (4, .int (nI c_6)), (0, .ref za), (1, .ref k1), (2, .int (nI k2)), (3, .int k3)]) hx hb dX13_stretch_22 hl (by decide) rfl (fun ls hl => ?_)
  refine lv_iload hx hb dX13_stretch_24 (lv_at hl 2 rfl) ?_
  refine lv_istore (lv' := [(7, .int (nI c_6)), (6, .int (nI j_24)), (5, .int (nI c_13)), (4, .int (nI c_6)), (0, .ref za), (1, .ref k1), (2, .int (nI k2)), (3, .int k3)]) hx hb dX13_stretch_26 hl (by decide) rfl (fun ls hl => ?_)
  have key_26 : ∀ (fu_28 : Nat) (v7w29 : Nat) (M_31 : Hp) (H_32 : Heap) (locs : List Loc) (ls : Array Slot), 2000 - v7w29 < fu_28 → v7w29 ≤ c_6 + c_13 → WOM cy K L M_31 → fr K L [14, 15, 32, 83, 89, 92, 93, 94, 95, 96, 97, 98, 99] M M_31 → fG K L [] M M_31 → VW K L M M_31 k1 (fx M k1) (ax M k1) → va_P D vwCl ([(za, (b13_0 z0 z1 (nI z2) (nI z3) z4 z5 z6 z7 z8 z9 (nI z10) z11 z12 z13 z14 z15 (nI z16) z17 z18 z19))] ++ va_pl L M_31) H_32 → va_D A ([(za, (b13_0 z0 z1 (nI z2) (nI z3) z4 z5 z6 z7 z8 z9 (nI z10) z11 z12 z13 z14 z15 (nI z16) z17 z18 z19))] ++ va_pl L M_31) → va_S A s.heap H_32 locs → lv_has ls 13 [(7, .int (nI v7w29)), (6, .int (nI j_24)), (5, .int (nI c_13)), (4, .int (nI c_6)), (0, .ref za), (1, .ref k1), (2, .int (nI k2)), (3, .int k3)] → W p l e R s m ([.ref za, .ref k1, .int (nI k2), .int k3] : List Value).toArray below meth c H_32 locs 0 0 Q (F0 m 28 ls []) := by
    intro fu_28
    induction fu_28 with
    | zero => intro v7w29 M_31 H_32 locs ls h; exact absurd h (Nat.not_lt_zero _)
    | succ fu_28 ih_27 =>
      intro v7w29 M_31 H_32 locs ls hfu hx_30 hW hF hG hV hP hD hS hl
      refine lv_iload hx hb dX13_stretch_28 (lv_at hl 0 rfl) ?_
      refine lv_iload hx hb dX13_stretch_30 (lv_at hl 3 rfl) ?_
      refine lv_iload hx hb dX13_stretch_32 (lv_at hl 2 rfl) ?_
      refine lv_iadd hx hb dX13_stretch_34 ?_
      refine lv_topi (fun f_33 ef_33 => ?_)
      obtain rfl : f_33 = (nI (c_6 + c_13)) := ef_33.trans (nI_add c_6 c_13)
      refine lv_icmp_ge (tgt := 67) hx hb dX13_stretch_35 (by decide) (fun c_34 => ?_) (fun c_34 => ?_)
      · have hz := rfl (a := 0)
        have n_35 : (c_6 + c_13) ≤ v7w29 := (iLE (a := (c_6 + c_13)) (b := v7w29) (by omega) (by omega)).mp c_34
        refine lv_aload_n hx hb dX13_stretch_67 rfl (lv_at hl 4 rfl) ?_
        refine lv_aload_n hx hb dX13_stretch_68 rfl (lv_at hl 5 rfl) ?_
        refine lv_iload hx hb dX13_stretch_69 (lv_at hl 3 rfl) ?_
        have hPc : va_P D vwCl ([(za, (b13_0 z0 z1 (nI z2) (nI z3) z4 z5 z6 z7 z8 z9 (nI z10) z11 z12 z13 z14 z15 (nI z16) z17 z18 z19))] ++ va_pl L M_31) H_32 := hP
        have hDc : va_D A ([(za, (b13_0 z0 z1 (nI z2) (nI z3) z4 z5 z6 z7 z8 z9 (nI z10) z11 z12 z13 z14 z15 (nI z16) z17 z18 z19))] ++ va_pl L M_31) := hD
        have hFc : ∀ q, va_A ([(za, (b13_0 z0 z1 (nI z2) (nI z3) z4 z5 z6 z7 z8 z9 (nI z10) z11 z12 z13 z14 z15 (nI z16) z17 z18 z19))] ++ va_pl L M_31) H_32.size q → A q := pg_free hDc hS hA
        refine va_callv (va_runV (As := [.ref k1, .int (nI c_6)]) (rest := []) ⟨hx, hb, hml, hown, hg⟩ (r_X13_present l D cy K L M_31 H_32.size za z0 z1 z2 z3 z4 z5 z6 z7 z8 z9 z10 z11 z12 z13 z14 z15 z16 z17 z18 z19 k1 (nI c_6)  hW i1 b2 b3 i6 i7 i8 i9 b10 i11 i12 i13 i14 i15 b16 i17 i19 ik1) (cwV 2 hg (gV wd_811 wd_812 wd_813 wd_717 wd_814) rfl rfl rfl (by decide +kernel) ⟨(Nat.le_trans (Nat.le_of_ble_eq_true rfl) hRf), (Nat.le_trans (Nat.le_of_ble_eq_true rfl) hRl)⟩) ⟨PG.blind, va_recv hK hP (ci := 13) (q0 := 0) rfl rfl, fun U hU hW => ⟨rfl, PG.at hPc hK hDc hN hU hW⟩⟩ rfl rfl hl.1 rfl (lv_room (Nat.le_of_ble_eq_true rfl)) dX13_stretch_71 ⟨(Nat.le_trans (Nat.le_of_ble_eq_true rfl) hRc), (Nat.le_trans (Nat.le_of_ble_eq_true rfl) hRs)⟩) hS (fun q _ h => hFc q h) hFc (fun M_38 t H_36 locs ht hvm hw hB hz1 hk1 hS => ?_)
        have hWb := hW
        obtain ⟨hW, hF2, hp_39⟩ := hw
        obtain ⟨w16_40, hg_41, hP1, hD1⟩ := hB
        rw [ht] at hP1
        have hP : va_P D vwCl ([(za, (b13_0 z0 z1 (nI z2) (nI z3) z4 z5 z6 z7 z8 z9 (nI z10) z11 z12 z13 z14 z15 (nI w16_40) z17 z18 z19))] ++ va_pl L M_38) H_36 := hP1
        have hD : va_D A ([(za, (b13_0 z0 z1 (nI z2) (nI z3) z4 z5 z6 z7 z8 z9 (nI z10) z11 z12 z13 z14 z15 (nI w16_40) z17 z18 z19))] ++ va_pl L M_38) := hD1.mono hFc
        have hF : fr K L [14, 15, 32, 83, 89, 92, 93, 94, 95, 96, 97, 98, 99] M M_38 := hF.tr hF2 (by decide)
        have hG : fG K L [] M M_38 := hG.frR hF2 (by decide)
        have hV : VW K L M M_38 k1 (fx M k1) (ax M k1) := hV.cal hWb hW hF2 ((fG.rf (js := [])).frR hF2 (by decide)) (by decide) (by decide) ik1
        refine lv_aload_n hx hb dX13_stretch_74 rfl (lv_at hl 4 rfl) ?_
        refine lv_aload_n hx hb dX13_stretch_75 rfl (lv_at hl 5 rfl) ?_
        refine lv_iload_n hx hb dX13_stretch_76 rfl (lv_at hl 6 rfl) ?_
        have hPc : va_P D vwCl ([(za, (b13_0 z0 z1 (nI z2) (nI z3) z4 z5 z6 z7 z8 z9 (nI z10) z11 z12 z13 z14 z15 (nI w16_40) z17 z18 z19))] ++ va_pl L M_38) H_36 := hP
        have hDc : va_D A ([(za, (b13_0 z0 z1 (nI z2) (nI z3) z4 z5 z6 z7 z8 z9 (nI z10) z11 z12 z13 z14 z15 (nI w16_40) z17 z18 z19))] ++ va_pl L M_38) := hD
        have hFc : ∀ q, va_A ([(za, (b13_0 z0 z1 (nI z2) (nI z3) z4 z5 z6 z7 z8 z9 (nI z10) z11 z12 z13 z14 z15 (nI w16_40) z17 z18 z19))] ++ va_pl L M_38) H_36.size q → A q := pg_free hDc hS hA
        refine va_callv (va_runV (As := [.ref k1, .int (nI k2)]) (rest := []) ⟨hx, hb, hml, hown, hg⟩ (r_X13_clears l D cy K L M_38 H_36.size za z0 z1 z2 z3 z4 z5 z6 z7 z8 z9 z10 z11 z12 z13 z14 z15 w16_40 z17 z18 z19 k1 k2  hW i1 b2 b3 i6 i7 i8 i9 b10 i11 i12 i13 i14 i15 (by omega) i17 i19 ik1 nk2) (cwV 2 hg (gV wd_841 wd_842 wd_843 wd_717 wd_844) rfl rfl rfl (by decide +kernel) ⟨(Nat.le_trans (Nat.le_of_ble_eq_true rfl) hRf), (Nat.le_trans (Nat.le_of_ble_eq_true rfl) hRl)⟩) ⟨PG.blind, va_recv hK hP (ci := 13) (q0 := 0) rfl rfl, fun U hU hW => ⟨rfl, PG.at hPc hK hDc hN hU hW⟩⟩ rfl rfl hl.1 rfl (lv_room (Nat.le_of_ble_eq_true rfl)) dX13_stretch_77 ⟨(Nat.le_trans (Nat.le_of_ble_eq_true rfl) hRc), (Nat.le_trans (Nat.le_of_ble_eq_true rfl) hRs)⟩) hS (fun q _ h => hFc q h) hFc (fun M_44 t H_42 locs ht hvm hw hB hz1 hk1 hS => ?_)
        have hWb := hW
        obtain ⟨hW, hF2, hp_45⟩ := hw
        obtain ⟨hP1, hD1⟩ := hB
        rw [ht] at hP1
        have hP : va_P D vwCl ([(za, (b13_0 z0 z1 (nI z2) (nI z3) z4 z5 z6 z7 z8 z9 (nI z10) z11 z12 z13 z14 z15 (nI w16_40) z17 z18 z19))] ++ va_pl L M_44) H_42 := hP1
        have hD : va_D A ([(za, (b13_0 z0 z1 (nI z2) (nI z3) z4 z5 z6 z7 z8 z9 (nI z10) z11 z12 z13 z14 z15 (nI w16_40) z17 z18 z19))] ++ va_pl L M_44) := hD1.mono hFc
        have hF : fr K L [14, 15, 32, 83, 89, 92, 93, 94, 95, 96, 97, 98, 99] M M_44 := hF.tr hF2 (by decide)
        have hG : fG K L [] M M_44 := hG.frR hF2 (by decide)
        have hV : VW K L M M_44 k1 (fx M k1) (ax M k1) := hV.cal hWb hW hF2 ((fG.rf (js := [])).frR hF2 (by decide)) (by decide) (by decide) ik1
        refine lv_aload_n hx hb dX13_stretch_80 rfl (lv_at hl 5 rfl) ?_
        obtain ⟨fs46, hM46, hn46, hl46⟩ := hW.open_12 ik1
        obtain ⟨v47, hv47, hc47⟩ : ∃ v : Nat, fs46[47]? = some (.ref v : Value) ∧ isk K L v 93 120 := hl46 47 (by decide)
        refine pg_getN (D := D) (ci := 12) (v := .ref v47) (C := RX12) (T := TX12) (N := 51) hx hb hg inG12 hown hK hP ik1.1 hM46 rfl 47 (by decide) (hN.use (Cond.fieldLinkNest RX13 301 RX12 "result" "[J" RX13) 56 rfl rfl) (fun _ h9 => h9) hv47 dX13_stretch_81 ?_
        refine lv_iload_n hx hb dX13_stretch_84 rfl (lv_at hl 6 rfl) ?_
        obtain ⟨f48, hM48⟩ := hW.open_93 hc47
        refine pg_lald hx hb hK hP hc47.1 1 hM48 rfl (inbN k2 120 (by omega) (by omega)) dX13_stretch_85 ?_
        refine lv_topl (fun f_49 ef_49 => ?_)
        refine lv_lstore (lv' := [(7, .long f_49), (6, .int (nI j_24)), (5, .int (nI c_13)), (4, .int (nI c_6)), (0, .ref za), (1, .ref k1), (2, .int (nI k2)), (3, .int k3)]) hx hb dX13_stretch_86 hl (by decide) rfl (fun ls hl => ?_)
        refine lv_iconst (v := 0) hx hb dX13_stretch_88 (by decide) ?_
        refine lv_istore (lv' := [(9, .int 0), (7, .long f_49), (6, .int (nI j_24)), (5, .int (nI c_13)), (4, .int (nI c_6)), (0, .ref za), (1, .ref k1), (2, .int (nI k2)), (3, .int k3)]) hx hb dX13_stretch_89 hl (by decide) rfl (fun ls hl => ?_)
        have key_50 : ∀ (fu_52 : Nat) (v7w53 : Int64) (v9w53 : Nat) (M_55 : Hp) (H_56 : Heap) (locs : List Loc) (ls : Array Slot), 24 - v9w53 < fu_52 → v9w53 ≤ 24 → WOM cy K L M_55 → fr K L [14, 15, 32, 83, 89, 92, 93, 94, 95, 96, 97, 98, 99] M M_55 → fG K L [] M M_55 → VW K L M M_55 k1 (fx M k1) (ax M k1) → va_P D vwCl ([(za, (b13_0 z0 z1 (nI z2) (nI z3) z4 z5 z6 z7 z8 z9 (nI z10) z11 z12 z13 z14 z15 (nI w16_40) z17 z18 z19))] ++ va_pl L M_55) H_56 → va_D A ([(za, (b13_0 z0 z1 (nI z2) (nI z3) z4 z5 z6 z7 z8 z9 (nI z10) z11 z12 z13 z14 z15 (nI w16_40) z17 z18 z19))] ++ va_pl L M_55) → va_S A s.heap H_56 locs → lv_has ls 13 [(9, .int (nI v9w53)), (7, .long v7w53), (6, .int (nI j_24)), (5, .int (nI c_13)), (4, .int (nI c_6)), (0, .ref za), (1, .ref k1), (2, .int (nI k2)), (3, .int k3)] → W p l e R s m ([.ref za, .ref k1, .int (nI k2), .int k3] : List Value).toArray below meth c H_56 locs 0 0 Q (F0 m 91 ls []) := by
          intro fu_52
          induction fu_52 with
          | zero => intro v7w53 v9w53 M_55 H_56 locs ls h; exact absurd h (Nat.not_lt_zero _)
          | succ fu_52 ih_51 =>
            intro v7w53 v9w53 M_55 H_56 locs ls hfu hx_54 hW hF hG hV hP hD hS hl
            refine lv_iload hx hb dX13_stretch_91 (lv_at hl 0 rfl) ?_
            refine lv_aload_n hx hb dX13_stretch_93 rfl (lv_at hl 5 rfl) ?_
            refine va_get (D := D) (ci := 13) (v := .int (nI w16_40)) (C := RX13) (T := TX13) (N := 20) hx hb hg inG13 hown hK hP 0 rfl rfl 16 (by decide) (hg _ wd_769) (fun _ h9 => h9) rfl dX13_stretch_94 ?_
            refine lv_icmp_ge (tgt := 187) hx hb dX13_stretch_97 (by decide) (fun c_57 => ?_) (fun c_57 => ?_)
            · have hz := rfl (a := 0)
              have n_58 : w16_40 ≤ v9w53 := (iLE (a := w16_40) (b := v9w53) (by omega) (by omega)).mp c_57
              refine lv_iconst (v := 0) hx hb dX13_stretch_187 (by decide) ?_
              refine lv_istore (lv' := [(9, .int 0), (7, .long v7w53), (6, .int (nI j_24)), (5, .int (nI c_13)), (4, .int (nI c_6)), (0, .ref za), (1, .ref k1), (2, .int (nI k2)), (3, .int k3)]) hx hb dX13_stretch_188 hl (by decide) rfl (fun ls hl => ?_)
              have key_59 : ∀ (fu_61 : Nat) (v7w62 : Int64) (v9w62 : Nat) (M_64 : Hp) (H_65 : Heap) (locs : List Loc) (ls : Array Slot), 24 - v9w62 < fu_61 → v9w62 ≤ 24 → WOM cy K L M_64 → fr K L [14, 15, 32, 83, 89, 92, 93, 94, 95, 96, 97, 98, 99] M M_64 → fG K L [] M M_64 → VW K L M M_64 k1 (fx M k1) (ax M k1) → va_P D vwCl ([(za, (b13_0 z0 z1 (nI z2) (nI z3) z4 z5 z6 z7 z8 z9 (nI z10) z11 z12 z13 z14 z15 (nI w16_40) z17 z18 z19))] ++ va_pl L M_64) H_65 → va_D A ([(za, (b13_0 z0 z1 (nI z2) (nI z3) z4 z5 z6 z7 z8 z9 (nI z10) z11 z12 z13 z14 z15 (nI w16_40) z17 z18 z19))] ++ va_pl L M_64) → va_S A s.heap H_65 locs → lv_has ls 13 [(9, .int (nI v9w62)), (7, .long v7w62), (6, .int (nI j_24)), (5, .int (nI c_13)), (4, .int (nI c_6)), (0, .ref za), (1, .ref k1), (2, .int (nI k2)), (3, .int k3)] → W p l e R s m ([.ref za, .ref k1, .int (nI k2), .int k3] : List Value).toArray below meth c H_65 locs 0 0 Q (F0 m 190 ls []) := by
                intro fu_61
                induction fu_61 with
                | zero => intro v7w62 v9w62 M_64 H_65 locs ls h; exact absurd h (Nat.not_lt_zero _)
                | succ fu_61 ih_60 =>
                  intro v7w62 v9w62 M_64 H_65 locs ls hfu hx_63 hW hF hG hV hP hD hS hl
                  refine lv_iload hx hb dX13_stretch_190 (lv_at hl 0 rfl) ?_
                  refine lv_aload_n hx hb dX13_stretch_192 rfl (lv_at hl 5 rfl) ?_
                  refine va_get (D := D) (ci := 13) (v := .int (nI w16_40)) (C := RX13) (T := TX13) (N := 20) hx hb hg inG13 hown hK hP 0 rfl rfl 16 (by decide) (hg _ wd_769) (fun _ h9 => h9) rfl dX13_stretch_193 ?_
                  refine lv_icmp_ge (tgt := 261) hx hb dX13_stretch_196 (by decide) (fun c_66 => ?_) (fun c_66 => ?_)
                  · have hz := rfl (a := 0)
                    have n_67 : w16_40 ≤ v9w62 := (iLE (a := w16_40) (b := v9w62) (by omega) (by omega)).mp c_66
                    refine lv_aload_n hx hb dX13_stretch_261 rfl (lv_at hl 5 rfl) ?_
                    refine lv_aload_n hx hb dX13_stretch_262 rfl (lv_at hl 6 rfl) ?_
                    refine lv_iload_n hx hb dX13_stretch_263 rfl (lv_at hl 7 rfl) ?_
                    refine lv_iload hx hb dX13_stretch_264 (lv_at hl 2 rfl) ?_
                    refine lv_lload hx hb dX13_stretch_266 (lv_at hl 1 rfl) ?_
                    have hPc : va_P D vwCl ([(za, (b13_0 z0 z1 (nI z2) (nI z3) z4 z5 z6 z7 z8 z9 (nI z10) z11 z12 z13 z14 z15 (nI w16_40) z17 z18 z19))] ++ va_pl L M_64) H_65 := hP
                    have hDc : va_D A ([(za, (b13_0 z0 z1 (nI z2) (nI z3) z4 z5 z6 z7 z8 z9 (nI z10) z11 z12 z13 z14 z15 (nI w16_40) z17 z18 z19))] ++ va_pl L M_64) := hD
                    have hFc : ∀ q, va_A ([(za, (b13_0 z0 z1 (nI z2) (nI z3) z4 z5 z6 z7 z8 z9 (nI z10) z11 z12 z13 z14 z15 (nI w16_40) z17 z18 z19))] ++ va_pl L M_64) H_65.size q → A q := pg_free hDc hS hA
                    refine va_callv (va_runV (As := [.ref k1, .int (nI k2), .int (nI j_24), .long v7w62]) (rest := []) ⟨hx, hb, hml, hown, hg⟩ (r_X13_shares l D cy K L M_64 H_65.size za z0 z1 z2 z3 z4 z5 z6 z7 z8 z9 z10 z11 z12 z13 z14 z15 w16_40 z17 z18 z19 k1 k2 j_24 v7w62  hW i1 b2 b3 i6 i7 i8 i9 b10 i11 i12 i13 i14 i15 (by omega) i17 i19 ik1 nk2 c_25) (cwV 4 hg (gV wd_845 wd_846 wd_847 wd_717 wd_848) rfl rfl rfl (by decide +kernel) ⟨(Nat.le_trans (Nat.le_of_ble_eq_true rfl) hRf), (Nat.le_trans (Nat.le_of_ble_eq_true rfl) hRl)⟩) ⟨PG.blind, va_recv hK hP (ci := 13) (q0 := 0) rfl rfl, fun U hU hW => ⟨rfl, PG.at hPc hK hDc hN hU hW⟩⟩ rfl rfl hl.1 rfl (lv_room (Nat.le_of_ble_eq_true rfl)) dX13_stretch_268 ⟨(Nat.le_trans (Nat.le_of_ble_eq_true rfl) hRc), (Nat.le_trans (Nat.le_of_ble_eq_true rfl) hRs)⟩) hS (fun q _ h => hFc q h) hFc (fun M_70 t H_68 locs ht hvm hw hB hz1 hk1 hS => ?_)
                    have hWb := hW
                    obtain ⟨hW, hF2, hp_71⟩ := hw
                    obtain ⟨hP1, hD1⟩ := hB
                    rw [ht] at hP1
                    have hP : va_P D vwCl ([(za, (b13_0 z0 z1 (nI z2) (nI z3) z4 z5 z6 z7 z8 z9 (nI z10) z11 z12 z13 z14 z15 (nI w16_40) z17 z18 z19))] ++ va_pl L M_70) H_68 := hP1
                    have hD : va_D A ([(za, (b13_0 z0 z1 (nI z2) (nI z3) z4 z5 z6 z7 z8 z9 (nI z10) z11 z12 z13 z14 z15 (nI w16_40) z17 z18 z19))] ++ va_pl L M_70) := hD1.mono hFc
                    have hF : fr K L [14, 15, 32, 83, 89, 92, 93, 94, 95, 96, 97, 98, 99] M M_70 := hF.tr hF2 (by decide)
                    have hG : fG K L [] M M_70 := hG.frR hF2 (by decide)
                    have hV : VW K L M M_70 k1 (fx M k1) (ax M k1) := hV.cal hWb hW hF2 ((fG.rf (js := [])).frR hF2 (by decide)) (by decide) (by decide) ik1
                    rw [hQ]
                    exact W.vret hx hb hr (fun t ht hW9 => ⟨⟨M_70, rfl, ⟨hW, hF, hG, trivial⟩, ⟨w16_40, (by omega), by rw [ht]; exact hP, hD⟩⟩, hS.F ht⟩) hS.2.2 dX13_stretch_271
                  · have hz := rfl (a := 0)
                    have n_72 : ¬ (w16_40 ≤ v9w62) := fun q => c_66 ((iLE (a := w16_40) (b := v9w62) (by omega) (by omega)).mpr q)
                    refine lv_lload hx hb dX13_stretch_199 (lv_at hl 1 rfl) ?_
                    refine lv_lconst (v := 0) hx hb dX13_stretch_201 (by decide) ?_
                    refine W.lcmp hx hb dX13_stretch_202 ?_
                    refine lv_if_le (tgt := 261) hx hb dX13_stretch_203 (by decide) (fun c_73 => ?_) (fun c_73 => ?_)
                    · have hz := rfl (a := 0)
                      have d_74 : v7w62 ≤ 0 := lc_let c_73
                      refine lv_aload_n hx hb dX13_stretch_261 rfl (lv_at hl 5 rfl) ?_
                      refine lv_aload_n hx hb dX13_stretch_262 rfl (lv_at hl 6 rfl) ?_
                      refine lv_iload_n hx hb dX13_stretch_263 rfl (lv_at hl 7 rfl) ?_
                      refine lv_iload hx hb dX13_stretch_264 (lv_at hl 2 rfl) ?_
                      refine lv_lload hx hb dX13_stretch_266 (lv_at hl 1 rfl) ?_
                      have hPc : va_P D vwCl ([(za, (b13_0 z0 z1 (nI z2) (nI z3) z4 z5 z6 z7 z8 z9 (nI z10) z11 z12 z13 z14 z15 (nI w16_40) z17 z18 z19))] ++ va_pl L M_64) H_65 := hP
                      have hDc : va_D A ([(za, (b13_0 z0 z1 (nI z2) (nI z3) z4 z5 z6 z7 z8 z9 (nI z10) z11 z12 z13 z14 z15 (nI w16_40) z17 z18 z19))] ++ va_pl L M_64) := hD
                      have hFc : ∀ q, va_A ([(za, (b13_0 z0 z1 (nI z2) (nI z3) z4 z5 z6 z7 z8 z9 (nI z10) z11 z12 z13 z14 z15 (nI w16_40) z17 z18 z19))] ++ va_pl L M_64) H_65.size q → A q := pg_free hDc hS hA
                      refine va_callv (va_runV (As := [.ref k1, .int (nI k2), .int (nI j_24), .long v7w62]) (rest := []) ⟨hx, hb, hml, hown, hg⟩ (r_X13_shares l D cy K L M_64 H_65.size za z0 z1 z2 z3 z4 z5 z6 z7 z8 z9 z10 z11 z12 z13 z14 z15 w16_40 z17 z18 z19 k1 k2 j_24 v7w62  hW i1 b2 b3 i6 i7 i8 i9 b10 i11 i12 i13 i14 i15 (by omega) i17 i19 ik1 nk2 c_25) (cwV 4 hg (gV wd_845 wd_846 wd_847 wd_717 wd_848) rfl rfl rfl (by decide +kernel) ⟨(Nat.le_trans (Nat.le_of_ble_eq_true rfl) hRf), (Nat.le_trans (Nat.le_of_ble_eq_true rfl) hRl)⟩) ⟨PG.blind, va_recv hK hP (ci := 13) (q0 := 0) rfl rfl, fun U hU hW => ⟨rfl, PG.at hPc hK hDc hN hU hW⟩⟩ rfl rfl hl.1 rfl (lv_room (Nat.le_of_ble_eq_true rfl)) dX13_stretch_268 ⟨(Nat.le_trans (Nat.le_of_ble_eq_true rfl) hRc), (Nat.le_trans (Nat.le_of_ble_eq_true rfl) hRs)⟩) hS (fun q _ h => hFc q h) hFc (fun M_77 t H_75 locs ht hvm hw hB hz1 hk1 hS => ?_)
                      have hWb := hW
                      obtain ⟨hW, hF2, hp_78⟩ := hw
                      obtain ⟨hP1, hD1⟩ := hB
                      rw [ht] at hP1
                      have hP : va_P D vwCl ([(za, (b13_0 z0 z1 (nI z2) (nI z3) z4 z5 z6 z7 z8 z9 (nI z10) z11 z12 z13 z14 z15 (nI w16_40) z17 z18 z19))] ++ va_pl L M_77) H_75 := hP1
                      have hD : va_D A ([(za, (b13_0 z0 z1 (nI z2) (nI z3) z4 z5 z6 z7 z8 z9 (nI z10) z11 z12 z13 z14 z15 (nI w16_40) z17 z18 z19))] ++ va_pl L M_77) := hD1.mono hFc
                      have hF : fr K L [14, 15, 32, 83, 89, 92, 93, 94, 95, 96, 97, 98, 99] M M_77 := hF.tr hF2 (by decide)
                      have hG : fG K L [] M M_77 := hG.frR hF2 (by decide)
                      have hV : VW K L M M_77 k1 (fx M k1) (ax M k1) := hV.cal hWb hW hF2 ((fG.rf (js := [])).frR hF2 (by decide)) (by decide) (by decide) ik1
                      rw [hQ]
                      exact W.vret hx hb hr (fun t ht hW9 => ⟨⟨M_77, rfl, ⟨hW, hF, hG, trivial⟩, ⟨w16_40, (by omega), by rw [ht]; exact hP, hD⟩⟩, hS.F ht⟩) hS.2.2 dX13_stretch_271
                    · have hz := rfl (a := 0)
                      have d_74 : ¬ v7w62 ≤ 0 := lc_lef c_73
                      refine lv_lload hx hb dX13_stretch_206 (lv_at hl 1 rfl) ?_
                      refine lv_aload_n hx hb dX13_stretch_208 rfl (lv_at hl 6 rfl) ?_
                      refine lv_iload hx hb dX13_stretch_209 (lv_at hl 2 rfl) ?_
                      refine lv_iconst (v := 1) hx hb dX13_stretch_211 (by decide) ?_
                      refine lv_aload_n hx hb dX13_stretch_212 rfl (lv_at hl 6 rfl) ?_
                      obtain ⟨fs79, hM79, hn79, hl79⟩ := hW.open_12 ik1
                      obtain ⟨v80, hv80, hc80⟩ : ∃ v : Nat, fs79[20]? = some (.ref v : Value) ∧ isk K L v 31 24 := hl79 20 (by decide)
                      refine pg_getN (D := D) (ci := 12) (v := .ref v80) (C := RX12) (T := TX12) (N := 51) hx hb hg inG12 hown hK hP ik1.1 hM79 rfl 20 (by decide) (hN.use (Cond.fieldLinkNest RX13 110 RX12 "where" "[I" RX13) 29 rfl rfl) (fun _ h9 => h9) hv80 dX13_stretch_213 ?_
                      refine lv_aload_n hx hb dX13_stretch_216 rfl (lv_at hl 5 rfl) ?_
                      refine va_get (D := D) (ci := 13) (v := .ref z11) (C := RX13) (T := TX13) (N := 20) hx hb hg inG13 hown hK hP 0 rfl rfl 11 (by decide) (hg _ wd_764) (fun _ h9 => h9) rfl dX13_stretch_217 ?_
                      refine lv_iload hx hb dX13_stretch_220 (lv_at hl 0 rfl) ?_
                      obtain ⟨f81, hM81, hf81⟩ := hW.open_32 i11
                      have hi_82 : vp_in (nI v9w62) 24 := (inbN v9w62 24 (by omega) (by omega))
                      refine pg_iald hx hb hK hP i11.1 0 hM81 rfl hi_82 dX13_stretch_222 ?_
                      have hp_83 := hf81 _ (vp_lt hi_82)
                      obtain ⟨c_84, hc_85, ec_86⟩ := hp_83
                      rw [ec_86]
                      obtain ⟨f87, hM87, hf87⟩ := hW.open_31 hc80
                      have hi_88 : vp_in (nI c_84) 24 := (inbN c_84 24 (by omega) (by omega))
                      refine pg_iald hx hb hK hP hc80.1 0 hM87 rfl hi_88 dX13_stretch_223 ?_
                      have hp_89 := hf87 _ (vp_lt hi_88)
                      obtain ⟨c_90, hc_91, ec_92⟩ := hp_89
                      rw [ec_92]
                      have hPc : va_P D vwCl ([] ++ va_pl L M_64) H_65 := hP.part (cx := []) [] rfl
                      have hDc : va_D A ([] ++ va_pl L M_64) := hD.part (cx := []) [] (by decide) rfl
                      have hFc : ∀ q, va_A ([] ++ va_pl L M_64) H_65.size q → A q := pg_free hDc hS hA
                      refine va_calli (va_runV (As := [.int (nI j_24), .int 1, .int (nI c_90)]) (rest := [.long v7w62]) ⟨hx, hb, hml, hown, hg⟩ (r_X12_term l D cy K L M_64 H_65.size k1 j_24 1 c_90  hW ik1 c_25 (by omega) hc_91) (cwV 3 hg (gV wd_770 wd_771 wd_772 wd_737 wd_773) rfl rfl rfl (by decide +kernel) ⟨(Nat.le_trans (Nat.le_of_ble_eq_true rfl) hRf), (Nat.le_trans (Nat.le_of_ble_eq_true rfl) hRl)⟩) ⟨PG.blind, pg_recv hK hP ik1.1 hM79 rfl, fun U hU hW => ⟨rfl, PG.at hPc hK hDc hN hU hW⟩⟩ rfl rfl hl.1 rfl (lv_room (Nat.le_of_ble_eq_true rfl)) dX13_stretch_224 ⟨(Nat.le_trans (Nat.le_of_ble_eq_true rfl) hRc), (Nat.le_trans (Nat.le_of_ble_eq_true rfl) hRs)⟩) hS (fun q _ h => hFc q h) hFc (fun r_94 M_95 t H_93 locs ht hvm hw hB hz1 hk1 hS => ?_)
                      have hp_96 := hw
                      obtain ⟨hP1, hD1⟩ := hB
                      rw [ht] at hP1
                      obtain ⟨hP, hD⟩ := va_joinP (X := [(za, (b13_0 z0 z1 (nI z2) (nI z3) z4 z5 z6 z7 z8 z9 (nI z10) z11 z12 z13 z14 z15 (nI w16_40) z17 z18 z19))]) (cx := []) (wr := [(za, (b13_0 z0 z1 (nI z2) (nI z3) z4 z5 z6 z7 z8 z9 (nI z10) z11 z12 z13 z14 z15 (nI w16_40) z17 z18 z19))]) (rx := []) (pl := va_pl L M_64) (pl1 := va_pl L M_64) hP hD [] [0] rfl rfl (by decide) (by decide) hk1 hFc hP1 hD1
                      have hP : va_P D vwCl ([(za, (b13_0 z0 z1 (nI z2) (nI z3) z4 z5 z6 z7 z8 z9 (nI z10) z11 z12 z13 z14 z15 (nI w16_40) z17 z18 z19))] ++ va_pl L M_64) H_93 := hP
                      have hD : va_D A ([(za, (b13_0 z0 z1 (nI z2) (nI z3) z4 z5 z6 z7 z8 z9 (nI z10) z11 z12 z13 z14 z15 (nI w16_40) z17 z18 z19))] ++ va_pl L M_64) := hD
                      refine lv_i2l hx hb dX13_stretch_227 rfl ?_
                      refine lv_topl (fun f_97 ef_97 => ?_)
                      refine va_mmin_long hx hb (by rw [hml]; exact hl.1.symm) hown (hg _ wd_849) (hg _ wd_176) (hg _ wd_12) (hg _ wd_177) (Nat.le_trans (Nat.le_of_ble_eq_true rfl) hRf) (Nat.le_trans (Nat.le_of_ble_eq_true rfl) hRl) (Nat.le_trans (Nat.le_of_ble_eq_true rfl) hRc) (Nat.le_trans (Nat.le_of_ble_eq_true rfl) hRs) dX13_stretch_228 ?_
                      refine lv_topl (fun f_98 ef_98 => ?_)
                      refine lv_lstore (lv' := [(10, .long f_98), (9, .int (nI v9w62)), (7, .long v7w62), (6, .int (nI j_24)), (5, .int (nI c_13)), (4, .int (nI c_6)), (0, .ref za), (1, .ref k1), (2, .int (nI k2)), (3, .int k3)]) hx hb dX13_stretch_231 hl (by decide) rfl (fun ls hl => ?_)
                      refine lv_aload_n hx hb dX13_stretch_233 rfl (lv_at hl 6 rfl) ?_
                      refine lv_aload_n hx hb dX13_stretch_234 rfl (lv_at hl 7 rfl) ?_
                      refine lv_iload_n hx hb dX13_stretch_235 rfl (lv_at hl 8 rfl) ?_
                      refine lv_aload_n hx hb dX13_stretch_236 rfl (lv_at hl 6 rfl) ?_
                      refine va_get (D := D) (ci := 13) (v := .ref z11) (C := RX13) (T := TX13) (N := 20) hx hb hg inG13 hown hK hP 0 rfl rfl 11 (by decide) (hg _ wd_764) (fun _ h9 => h9) rfl dX13_stretch_237 ?_
                      refine lv_iload hx hb dX13_stretch_240 (lv_at hl 1 rfl) ?_
                      refine pg_iald hx hb hK hP i11.1 0 hM81 rfl (inbN v9w62 24 (by omega) (by omega)) dX13_stretch_242 ?_
                      rw [ec_86]
                      refine lv_lload hx hb dX13_stretch_243 (lv_at hl 0 rfl) ?_
                      have hPc : va_P D vwCl ([(za, (b13_0 z0 z1 (nI z2) (nI z3) z4 z5 z6 z7 z8 z9 (nI z10) z11 z12 z13 z14 z15 (nI w16_40) z17 z18 z19))] ++ va_pl L M_64) H_93 := hP
                      have hDc : va_D A ([(za, (b13_0 z0 z1 (nI z2) (nI z3) z4 z5 z6 z7 z8 z9 (nI z10) z11 z12 z13 z14 z15 (nI w16_40) z17 z18 z19))] ++ va_pl L M_64) := hD
                      have hFc : ∀ q, va_A ([(za, (b13_0 z0 z1 (nI z2) (nI z3) z4 z5 z6 z7 z8 z9 (nI z10) z11 z12 z13 z14 z15 (nI w16_40) z17 z18 z19))] ++ va_pl L M_64) H_93.size q → A q := pg_free hDc hS hA
                      refine va_callv (va_runV (As := [.ref k1, .int (nI k2), .int (nI c_84), .long f_98]) (rest := []) ⟨hx, hb, hml, hown, hg⟩ (r_X13_gives l D cy K L M_64 H_93.size za z0 z1 z2 z3 z4 z5 z6 z7 z8 z9 z10 z11 z12 z13 z14 z15 w16_40 z17 z18 z19 k1 k2 c_84 f_98  hW i1 b2 b3 i6 i7 i8 i9 b10 i11 i12 i13 i14 i15 (by omega) i17 i19 ik1 nk2 hc_85) (cwV 4 hg (gV wd_803 wd_804 wd_805 wd_717 wd_806) rfl rfl rfl (by decide +kernel) ⟨(Nat.le_trans (Nat.le_of_ble_eq_true rfl) hRf), (Nat.le_trans (Nat.le_of_ble_eq_true rfl) hRl)⟩) ⟨PG.blind, va_recv hK hP (ci := 13) (q0 := 0) rfl rfl, fun U hU hW => ⟨rfl, PG.at hPc hK hDc hN hU hW⟩⟩ rfl rfl hl.1 rfl (lv_room (Nat.le_of_ble_eq_true rfl)) dX13_stretch_245 ⟨(Nat.le_trans (Nat.le_of_ble_eq_true rfl) hRc), (Nat.le_trans (Nat.le_of_ble_eq_true rfl) hRs)⟩) hS (fun q _ h => hFc q h) hFc (fun M_101 t H_99 locs ht hvm hw hB hz1 hk1 hS => ?_)
                      have hWb := hW
                      obtain ⟨hW, hF2, hp_102⟩ := hw
                      obtain ⟨hP1, hD1⟩ := hB
                      rw [ht] at hP1
                      have hP : va_P D vwCl ([(za, (b13_0 z0 z1 (nI z2) (nI z3) z4 z5 z6 z7 z8 z9 (nI z10) z11 z12 z13 z14 z15 (nI w16_40) z17 z18 z19))] ++ va_pl L M_101) H_99 := hP1
                      have hD : va_D A ([(za, (b13_0 z0 z1 (nI z2) (nI z3) z4 z5 z6 z7 z8 z9 (nI z10) z11 z12 z13 z14 z15 (nI w16_40) z17 z18 z19))] ++ va_pl L M_101) := hD1.mono hFc
                      have hM_103 : M_101 k1 = .inr (12, fs79) := (hF2.at ik1 (by decide)).trans hM79
                      have hM_104 : M_101 z11 = .inl (cy 14, 24, .inl (f81)) := (hF2.at i11 (by decide)).trans hM81
                      have hM_105 : M_101 v80 = .inl (cy 14, 24, .inl (f87)) := (hF2.at hc80 (by decide)).trans hM87
                      have hF : fr K L [14, 15, 32, 83, 89, 92, 93, 94, 95, 96, 97, 98, 99] M M_101 := hF.tr hF2 (by decide)
                      have hG : fG K L [] M M_101 := hG.frR hF2 (by decide)
                      have hV : VW K L M M_101 k1 (fx M k1) (ax M k1) := hV.cal hWb hW hF2 ((fG.rf (js := [])).frR hF2 (by decide)) (by decide) (by decide) ik1
                      refine lv_lload hx hb dX13_stretch_248 (lv_at hl 2 rfl) ?_
                      refine lv_lload hx hb dX13_stretch_250 (lv_at hl 0 rfl) ?_
                      refine lv_lsub hx hb dX13_stretch_252 ?_
                      refine lv_topl (fun f_106 ef_106 => ?_)
                      refine lv_lstore (lv' := [(7, .long f_106), (10, .long f_98), (9, .int (nI v9w62)), (6, .int (nI j_24)), (5, .int (nI c_13)), (4, .int (nI c_6)), (0, .ref za), (1, .ref k1), (2, .int (nI k2)), (3, .int k3)]) hx hb dX13_stretch_253 hl (by decide) rfl (fun ls hl => ?_)
                      refine lv_iinc (v := (nI (v9w62 + 1))) (lv' := [(9, .int (nI (v9w62 + 1))), (7, .long f_106), (10, .long f_98), (6, .int (nI j_24)), (5, .int (nI c_13)), (4, .int (nI c_6)), (0, .ref za), (1, .ref k1), (2, .int (nI k2)), (3, .int k3)]) hx hb dX13_stretch_255 hl (k := 2) rfl (nI_1 v9w62) (by decide) rfl (fun ls hl => ?_)
                      refine lv_goto (tgt := 190) hx hb dX13_stretch_258 (by decide) ?_
                      exact ih_60 f_106 (v9w62 + 1) M_101 H_99 _ _ (by omega) (by omega) hW hF hG hV hP hD hS (lv_sub hl [0, 1, 3, 4, 5, 6, 7, 8, 9] rfl)
              exact key_59 (24 - 0 + 1) v7w53 0 M_55 H_56 _ _ (by omega) (by omega) hW hF hG hV hP hD hS (lv_sub hl [0, 1, 2, 3, 4, 5, 6, 7, 8] rfl)
            · have hz := rfl (a := 0)
              have n_107 : ¬ (w16_40 ≤ v9w53) := fun q => c_57 ((iLE (a := w16_40) (b := v9w53) (by omega) (by omega)).mpr q)
              refine lv_aload_n hx hb dX13_stretch_100 rfl (lv_at hl 5 rfl) ?_
              refine va_get (D := D) (ci := 13) (v := .ref z11) (C := RX13) (T := TX13) (N := 20) hx hb hg inG13 hown hK hP 0 rfl rfl 11 (by decide) (hg _ wd_764) (fun _ h9 => h9) rfl dX13_stretch_101 ?_
              refine lv_iload hx hb dX13_stretch_104 (lv_at hl 0 rfl) ?_
              obtain ⟨f108, hM108, hf108⟩ := hW.open_32 i11
              have hi_109 : vp_in (nI v9w53) 24 := (inbN v9w53 24 (by omega) (by omega))
              refine pg_iald hx hb hK hP i11.1 0 hM108 rfl hi_109 dX13_stretch_106 ?_
              have hp_110 := hf108 _ (vp_lt hi_109)
              obtain ⟨c_111, hc_112, ec_113⟩ := hp_110
              rw [ec_113]
              refine lv_istore (lv' := [(10, .int (nI c_111)), (9, .int (nI v9w53)), (7, .long v7w53), (6, .int (nI j_24)), (5, .int (nI c_13)), (4, .int (nI c_6)), (0, .ref za), (1, .ref k1), (2, .int (nI k2)), (3, .int k3)]) hx hb dX13_stretch_107 hl (by decide) rfl (fun ls hl => ?_)
              refine lv_aload_n hx hb dX13_stretch_109 rfl (lv_at hl 7 rfl) ?_
              refine lv_iload hx hb dX13_stretch_110 (lv_at hl 0 rfl) ?_
              refine lv_iload hx hb dX13_stretch_112 (lv_at hl 3 rfl) ?_
              refine lv_iload hx hb dX13_stretch_114 (lv_at hl 5 rfl) ?_
              refine lv_iload hx hb dX13_stretch_116 (lv_at hl 4 rfl) ?_
              refine lv_iload_n hx hb dX13_stretch_118 rfl (lv_at hl 9 rfl) ?_
              have hPc : va_P D vwCl ([] ++ va_pl L M_55) H_56 := hP.part (cx := []) [] rfl
              have hDc : va_D A ([] ++ va_pl L M_55) := hD.part (cx := []) [] (by decide) rfl
              have hFc : ∀ q, va_A ([] ++ va_pl L M_55) H_56.size q → A q := pg_free hDc hS hA
              refine va_calll (va_runS (As := [.ref k1, .int (nI c_111), .int (nI j_24), .int (nI c_6), .int (nI c_13), .int k3]) (rest := []) ⟨hx, hb, hml, hown, hg⟩ (r_X13_interest l D cy K L M_55 H_56.size k1 c_111 j_24 c_6 c_13 k3  hW ik1 hc_112 c_25 hc_7 hc_14) (va_cwS 6 hg (gS wd_850 wd_851 wd_717 wd_852) rfl rfl rfl (by decide +kernel) ⟨(Nat.le_trans (Nat.le_of_ble_eq_true rfl) hRf), (Nat.le_trans (Nat.le_of_ble_eq_true rfl) hRl)⟩) ⟨PG.blind, fun U hU hW => ⟨rfl, PG.at hPc hK hDc hN hU hW⟩⟩ rfl rfl hl.1 rfl (lv_room (Nat.le_of_ble_eq_true rfl)) dX13_stretch_119 ⟨(Nat.le_trans (Nat.le_of_ble_eq_true rfl) hRc), (Nat.le_trans (Nat.le_of_ble_eq_true rfl) hRs)⟩) hS (fun q _ h => hFc q h) hFc (fun r_115 M_116 t H_114 locs ht hvm hw hB hz1 hk1 hS => ?_)
              have hp_117 := hw
              obtain ⟨hP1, hD1⟩ := hB
              rw [ht] at hP1
              obtain ⟨hP, hD⟩ := va_joinP (X := [(za, (b13_0 z0 z1 (nI z2) (nI z3) z4 z5 z6 z7 z8 z9 (nI z10) z11 z12 z13 z14 z15 (nI w16_40) z17 z18 z19))]) (cx := []) (wr := [(za, (b13_0 z0 z1 (nI z2) (nI z3) z4 z5 z6 z7 z8 z9 (nI z10) z11 z12 z13 z14 z15 (nI w16_40) z17 z18 z19))]) (rx := []) (pl := va_pl L M_55) (pl1 := va_pl L M_55) hP hD [] [0] rfl rfl (by decide) (by decide) hk1 hFc hP1 hD1
              have hP : va_P D vwCl ([(za, (b13_0 z0 z1 (nI z2) (nI z3) z4 z5 z6 z7 z8 z9 (nI z10) z11 z12 z13 z14 z15 (nI w16_40) z17 z18 z19))] ++ va_pl L M_55) H_114 := hP
              have hD : va_D A ([(za, (b13_0 z0 z1 (nI z2) (nI z3) z4 z5 z6 z7 z8 z9 (nI z10) z11 z12 z13 z14 z15 (nI w16_40) z17 z18 z19))] ++ va_pl L M_55) := hD
              refine lv_lstore (lv' := [(11, .long r_115), (10, .int (nI c_111)), (9, .int (nI v9w53)), (7, .long v7w53), (6, .int (nI j_24)), (5, .int (nI c_13)), (4, .int (nI c_6)), (0, .ref za), (1, .ref k1), (2, .int (nI k2)), (3, .int k3)]) hx hb dX13_stretch_122 hl (by decide) rfl (fun ls hl => ?_)
              refine lv_aload_n hx hb dX13_stretch_124 rfl (lv_at hl 7 rfl) ?_
              refine va_get (D := D) (ci := 13) (v := .ref z6) (C := RX13) (T := TX13) (N := 20) hx hb hg inG13 hown hK hP 0 rfl rfl 6 (by decide) (hg _ wd_719) (fun _ h9 => h9) rfl dX13_stretch_125 ?_
              refine lv_aload_n hx hb dX13_stretch_128 rfl (lv_at hl 8 rfl) ?_
              obtain ⟨fs118, hM118, hn118, hl118⟩ := hW.open_12 ik1
              obtain ⟨v119, hv119, hc119⟩ : ∃ v : Nat, fs118[19]? = some (.ref v : Value) ∧ isk K L v 30 24 := hl118 19 (by decide)
              refine pg_getN (D := D) (ci := 12) (v := .ref v119) (C := RX12) (T := TX12) (N := 51) hx hb hg inG12 hown hK hP ik1.1 hM118 rfl 19 (by decide) (hN.use (Cond.fieldLinkNest RX13 72 RX12 "who" "[I" RX13) 28 rfl rfl) (fun _ h9 => h9) hv119 dX13_stretch_129 ?_
              refine lv_iload hx hb dX13_stretch_132 (lv_at hl 1 rfl) ?_
              obtain ⟨f120, hM120, hf120⟩ := hW.open_30 hc119
              have hi_121 : vp_in (nI c_111) 24 := (inbN c_111 24 (by omega) (by omega))
              refine pg_iald hx hb hK hP hc119.1 0 hM120 rfl hi_121 dX13_stretch_134 ?_
              have hp_122 := hf120 _ (vp_lt hi_121)
              obtain ⟨c_123, hc_124, ec_125⟩ := hp_122
              rw [ec_125]
              obtain ⟨f126, hM126, hf126⟩ := hW.open_47 i6
              have hi_127 : vp_in (nI c_123) 40 := (inbN c_123 40 (by omega) (by omega))
              refine pg_iald hx hb hK hP i6.1 0 hM126 rfl hi_127 dX13_stretch_135 ?_
              have hp_128 := hf126 _ (vp_lt hi_127)
              obtain ⟨c_129, hc_130, ec_131⟩ := hp_128
              rw [ec_131]
              refine lv_iconst (v := 3) hx hb dX13_stretch_136 (by decide) ?_
              refine lv_icmp_ne (tgt := 164) hx hb dX13_stretch_137 (by decide) (fun c_132 => ?_) (fun c_132 => ?_)
              · have hz := rfl (a := 0)
                have n_133 : ¬ (c_129 = 3) := fun q => c_132 ((iEQ (a := c_129) (b := 3) (by omega) (by omega)).mpr q)
                refine lv_aload_n hx hb dX13_stretch_164 rfl (lv_at hl 7 rfl) ?_
                refine lv_aload_n hx hb dX13_stretch_165 rfl (lv_at hl 8 rfl) ?_
                refine lv_iload_n hx hb dX13_stretch_166 rfl (lv_at hl 9 rfl) ?_
                refine lv_iload hx hb dX13_stretch_167 (lv_at hl 1 rfl) ?_
                refine lv_lload hx hb dX13_stretch_169 (lv_at hl 0 rfl) ?_
                have hPc : va_P D vwCl ([(za, (b13_0 z0 z1 (nI z2) (nI z3) z4 z5 z6 z7 z8 z9 (nI z10) z11 z12 z13 z14 z15 (nI w16_40) z17 z18 z19))] ++ va_pl L M_55) H_114 := hP
                have hDc : va_D A ([(za, (b13_0 z0 z1 (nI z2) (nI z3) z4 z5 z6 z7 z8 z9 (nI z10) z11 z12 z13 z14 z15 (nI w16_40) z17 z18 z19))] ++ va_pl L M_55) := hD
                have hFc : ∀ q, va_A ([(za, (b13_0 z0 z1 (nI z2) (nI z3) z4 z5 z6 z7 z8 z9 (nI z10) z11 z12 z13 z14 z15 (nI w16_40) z17 z18 z19))] ++ va_pl L M_55) H_114.size q → A q := pg_free hDc hS hA
                refine va_callv (va_runV (As := [.ref k1, .int (nI k2), .int (nI c_111), .long r_115]) (rest := []) ⟨hx, hb, hml, hown, hg⟩ (r_X13_gives l D cy K L M_55 H_114.size za z0 z1 z2 z3 z4 z5 z6 z7 z8 z9 z10 z11 z12 z13 z14 z15 w16_40 z17 z18 z19 k1 k2 c_111 r_115  hW i1 b2 b3 i6 i7 i8 i9 b10 i11 i12 i13 i14 i15 (by omega) i17 i19 ik1 nk2 hc_112) (cwV 4 hg (gV wd_803 wd_804 wd_805 wd_717 wd_806) rfl rfl rfl (by decide +kernel) ⟨(Nat.le_trans (Nat.le_of_ble_eq_true rfl) hRf), (Nat.le_trans (Nat.le_of_ble_eq_true rfl) hRl)⟩) ⟨PG.blind, va_recv hK hP (ci := 13) (q0 := 0) rfl rfl, fun U hU hW => ⟨rfl, PG.at hPc hK hDc hN hU hW⟩⟩ rfl rfl hl.1 rfl (lv_room (Nat.le_of_ble_eq_true rfl)) dX13_stretch_171 ⟨(Nat.le_trans (Nat.le_of_ble_eq_true rfl) hRc), (Nat.le_trans (Nat.le_of_ble_eq_true rfl) hRs)⟩) hS (fun q _ h => hFc q h) hFc (fun M_136 t H_134 locs ht hvm hw hB hz1 hk1 hS => ?_)
                have hWb := hW
                obtain ⟨hW, hF2, hp_137⟩ := hw
                obtain ⟨hP1, hD1⟩ := hB
                rw [ht] at hP1
                have hP : va_P D vwCl ([(za, (b13_0 z0 z1 (nI z2) (nI z3) z4 z5 z6 z7 z8 z9 (nI z10) z11 z12 z13 z14 z15 (nI w16_40) z17 z18 z19))] ++ va_pl L M_136) H_134 := hP1
                have hD : va_D A ([(za, (b13_0 z0 z1 (nI z2) (nI z3) z4 z5 z6 z7 z8 z9 (nI z10) z11 z12 z13 z14 z15 (nI w16_40) z17 z18 z19))] ++ va_pl L M_136) := hD1.mono hFc
                have hM_138 : M_136 z11 = .inl (cy 14, 24, .inl (f108)) := (hF2.at i11 (by decide)).trans hM108
                have hM_139 : M_136 k1 = .inr (12, fs118) := (hF2.at ik1 (by decide)).trans hM118
                have hM_140 : M_136 v119 = .inl (cy 14, 24, .inl (f120)) := (hF2.at hc119 (by decide)).trans hM120
                have hM_141 : M_136 z6 = .inl (cy 14, 40, .inl (f126)) := (hF2.at i6 (by decide)).trans hM126
                have hF : fr K L [14, 15, 32, 83, 89, 92, 93, 94, 95, 96, 97, 98, 99] M M_136 := hF.tr hF2 (by decide)
                have hG : fG K L [] M M_136 := hG.frR hF2 (by decide)
                have hV : VW K L M M_136 k1 (fx M k1) (ax M k1) := hV.cal hWb hW hF2 ((fG.rf (js := [])).frR hF2 (by decide)) (by decide) (by decide) ik1
                refine lv_lload hx hb dX13_stretch_174 (lv_at hl 3 rfl) ?_
                refine lv_lload hx hb dX13_stretch_176 (lv_at hl 0 rfl) ?_
                refine lv_lsub hx hb dX13_stretch_178 ?_
                refine lv_topl (fun f_142 ef_142 => ?_)
                refine lv_lstore (lv' := [(7, .long f_142), (11, .long r_115), (10, .int (nI c_111)), (9, .int (nI v9w53)), (6, .int (nI j_24)), (5, .int (nI c_13)), (4, .int (nI c_6)), (0, .ref za), (1, .ref k1), (2, .int (nI k2)), (3, .int k3)]) hx hb dX13_stretch_179 hl (by decide) rfl (fun ls hl => ?_)
                refine lv_iinc (v := (nI (v9w53 + 1))) (lv' := [(9, .int (nI (v9w53 + 1))), (7, .long f_142), (11, .long r_115), (10, .int (nI c_111)), (6, .int (nI j_24)), (5, .int (nI c_13)), (4, .int (nI c_6)), (0, .ref za), (1, .ref k1), (2, .int (nI k2)), (3, .int k3)]) hx hb dX13_stretch_181 hl (k := 3) rfl (nI_1 v9w53) (by decide) rfl (fun ls hl => ?_)
                refine lv_goto (tgt := 91) hx hb dX13_stretch_184 (by decide) ?_
                exact ih_51 f_142 (v9w53 + 1) M_136 H_134 _ _ (by omega) (by omega) hW hF hG hV hP hD hS (lv_sub hl [0, 1, 4, 5, 6, 7, 8, 9, 10] rfl)
              · have hz := rfl (a := 0)
                have n_143 : c_129 = 3 := (iEQ (a := c_129) (b := 3) (by omega) (by omega)).mp c_132
                refine lv_lload hx hb dX13_stretch_140 (lv_at hl 0 rfl) ?_
                refine lv_aload_n hx hb dX13_stretch_142 rfl (lv_at hl 8 rfl) ?_
                refine lv_iload hx hb dX13_stretch_143 (lv_at hl 4 rfl) ?_
                refine lv_iconst (v := 0) hx hb dX13_stretch_145 (by decide) ?_
                refine lv_aload_n hx hb dX13_stretch_146 rfl (lv_at hl 8 rfl) ?_
                obtain ⟨v144, hv144, hc144⟩ : ∃ v : Nat, fs118[20]? = some (.ref v : Value) ∧ isk K L v 31 24 := hl118 20 (by decide)
                refine pg_getN (D := D) (ci := 12) (v := .ref v144) (C := RX12) (T := TX12) (N := 51) hx hb hg inG12 hown hK hP ik1.1 hM118 rfl 20 (by decide) (hN.use (Cond.fieldLinkNest RX13 110 RX12 "where" "[I" RX13) 29 rfl rfl) (fun _ h9 => h9) hv144 dX13_stretch_147 ?_
                refine lv_iload hx hb dX13_stretch_150 (lv_at hl 1 rfl) ?_
                obtain ⟨f145, hM145, hf145⟩ := hW.open_31 hc144
                have hi_146 : vp_in (nI c_111) 24 := (inbN c_111 24 (by omega) (by omega))
                refine pg_iald hx hb hK hP hc144.1 0 hM145 rfl hi_146 dX13_stretch_152 ?_
                have hp_147 := hf145 _ (vp_lt hi_146)
                obtain ⟨c_148, hc_149, ec_150⟩ := hp_147
                rw [ec_150]
                have hPc : va_P D vwCl ([] ++ va_pl L M_55) H_114 := hP.part (cx := []) [] rfl
                have hDc : va_D A ([] ++ va_pl L M_55) := hD.part (cx := []) [] (by decide) rfl
                have hFc : ∀ q, va_A ([] ++ va_pl L M_55) H_114.size q → A q := pg_free hDc hS hA
                refine va_calli (va_runV (As := [.int (nI j_24), .int 0, .int (nI c_148)]) (rest := [.long r_115]) ⟨hx, hb, hml, hown, hg⟩ (r_X12_term l D cy K L M_55 H_114.size k1 j_24 0 c_148  hW ik1 c_25 (by omega) hc_149) (cwV 3 hg (gV wd_770 wd_771 wd_772 wd_737 wd_773) rfl rfl rfl (by decide +kernel) ⟨(Nat.le_trans (Nat.le_of_ble_eq_true rfl) hRf), (Nat.le_trans (Nat.le_of_ble_eq_true rfl) hRl)⟩) ⟨PG.blind, pg_recv hK hP ik1.1 hM118 rfl, fun U hU hW => ⟨rfl, PG.at hPc hK hDc hN hU hW⟩⟩ rfl rfl hl.1 rfl (lv_room (Nat.le_of_ble_eq_true rfl)) dX13_stretch_153 ⟨(Nat.le_trans (Nat.le_of_ble_eq_true rfl) hRc), (Nat.le_trans (Nat.le_of_ble_eq_true rfl) hRs)⟩) hS (fun q _ h => hFc q h) hFc (fun r_152 M_153 t H_151 locs ht hvm hw hB hz1 hk1 hS => ?_)
                have hp_154 := hw
                obtain ⟨hP1, hD1⟩ := hB
                rw [ht] at hP1
                obtain ⟨hP, hD⟩ := va_joinP (X := [(za, (b13_0 z0 z1 (nI z2) (nI z3) z4 z5 z6 z7 z8 z9 (nI z10) z11 z12 z13 z14 z15 (nI w16_40) z17 z18 z19))]) (cx := []) (wr := [(za, (b13_0 z0 z1 (nI z2) (nI z3) z4 z5 z6 z7 z8 z9 (nI z10) z11 z12 z13 z14 z15 (nI w16_40) z17 z18 z19))]) (rx := []) (pl := va_pl L M_55) (pl1 := va_pl L M_55) hP hD [] [0] rfl rfl (by decide) (by decide) hk1 hFc hP1 hD1
                have hP : va_P D vwCl ([(za, (b13_0 z0 z1 (nI z2) (nI z3) z4 z5 z6 z7 z8 z9 (nI z10) z11 z12 z13 z14 z15 (nI w16_40) z17 z18 z19))] ++ va_pl L M_55) H_151 := hP
                have hD : va_D A ([(za, (b13_0 z0 z1 (nI z2) (nI z3) z4 z5 z6 z7 z8 z9 (nI z10) z11 z12 z13 z14 z15 (nI w16_40) z17 z18 z19))] ++ va_pl L M_55) := hD
                refine lv_i2l hx hb dX13_stretch_156 rfl ?_
                refine lv_topl (fun f_155 ef_155 => ?_)
                refine lv_iload hx hb dX13_stretch_157 (lv_at hl 5 rfl) ?_
                refine lv_i2l hx hb dX13_stretch_159 rfl ?_
                refine lv_topl (fun f_156 ef_156 => ?_)
                refine lv_lmul hx hb dX13_stretch_160 ?_
                refine lv_topl (fun f_157 ef_157 => ?_)
                refine lv_ladd hx hb dX13_stretch_161 ?_
                refine lv_topl (fun f_158 ef_158 => ?_)
                refine lv_lstore (lv' := [(11, .long f_158), (10, .int (nI c_111)), (9, .int (nI v9w53)), (7, .long v7w53), (6, .int (nI j_24)), (5, .int (nI c_13)), (4, .int (nI c_6)), (0, .ref za), (1, .ref k1), (2, .int (nI k2)), (3, .int k3)]) hx hb dX13_stretch_162 hl (by decide) rfl (fun ls hl => ?_)
                refine lv_aload_n hx hb dX13_stretch_164 rfl (lv_at hl 7 rfl) ?_
                refine lv_aload_n hx hb dX13_stretch_165 rfl (lv_at hl 8 rfl) ?_
                refine lv_iload_n hx hb dX13_stretch_166 rfl (lv_at hl 9 rfl) ?_
                refine lv_iload hx hb dX13_stretch_167 (lv_at hl 1 rfl) ?_
                refine lv_lload hx hb dX13_stretch_169 (lv_at hl 0 rfl) ?_
                have hPc : va_P D vwCl ([(za, (b13_0 z0 z1 (nI z2) (nI z3) z4 z5 z6 z7 z8 z9 (nI z10) z11 z12 z13 z14 z15 (nI w16_40) z17 z18 z19))] ++ va_pl L M_55) H_151 := hP
                have hDc : va_D A ([(za, (b13_0 z0 z1 (nI z2) (nI z3) z4 z5 z6 z7 z8 z9 (nI z10) z11 z12 z13 z14 z15 (nI w16_40) z17 z18 z19))] ++ va_pl L M_55) := hD
                have hFc : ∀ q, va_A ([(za, (b13_0 z0 z1 (nI z2) (nI z3) z4 z5 z6 z7 z8 z9 (nI z10) z11 z12 z13 z14 z15 (nI w16_40) z17 z18 z19))] ++ va_pl L M_55) H_151.size q → A q := pg_free hDc hS hA
                refine va_callv (va_runV (As := [.ref k1, .int (nI k2), .int (nI c_111), .long f_158]) (rest := []) ⟨hx, hb, hml, hown, hg⟩ (r_X13_gives l D cy K L M_55 H_151.size za z0 z1 z2 z3 z4 z5 z6 z7 z8 z9 z10 z11 z12 z13 z14 z15 w16_40 z17 z18 z19 k1 k2 c_111 f_158  hW i1 b2 b3 i6 i7 i8 i9 b10 i11 i12 i13 i14 i15 (by omega) i17 i19 ik1 nk2 hc_112) (cwV 4 hg (gV wd_803 wd_804 wd_805 wd_717 wd_806) rfl rfl rfl (by decide +kernel) ⟨(Nat.le_trans (Nat.le_of_ble_eq_true rfl) hRf), (Nat.le_trans (Nat.le_of_ble_eq_true rfl) hRl)⟩) ⟨PG.blind, va_recv hK hP (ci := 13) (q0 := 0) rfl rfl, fun U hU hW => ⟨rfl, PG.at hPc hK hDc hN hU hW⟩⟩ rfl rfl hl.1 rfl (lv_room (Nat.le_of_ble_eq_true rfl)) dX13_stretch_171 ⟨(Nat.le_trans (Nat.le_of_ble_eq_true rfl) hRc), (Nat.le_trans (Nat.le_of_ble_eq_true rfl) hRs)⟩) hS (fun q _ h => hFc q h) hFc (fun M_161 t H_159 locs ht hvm hw hB hz1 hk1 hS => ?_)
                have hWb := hW
                obtain ⟨hW, hF2, hp_162⟩ := hw
                obtain ⟨hP1, hD1⟩ := hB
                rw [ht] at hP1
                have hP : va_P D vwCl ([(za, (b13_0 z0 z1 (nI z2) (nI z3) z4 z5 z6 z7 z8 z9 (nI z10) z11 z12 z13 z14 z15 (nI w16_40) z17 z18 z19))] ++ va_pl L M_161) H_159 := hP1
                have hD : va_D A ([(za, (b13_0 z0 z1 (nI z2) (nI z3) z4 z5 z6 z7 z8 z9 (nI z10) z11 z12 z13 z14 z15 (nI w16_40) z17 z18 z19))] ++ va_pl L M_161) := hD1.mono hFc
                have hM_163 : M_161 z11 = .inl (cy 14, 24, .inl (f108)) := (hF2.at i11 (by decide)).trans hM108
                have hM_164 : M_161 k1 = .inr (12, fs118) := (hF2.at ik1 (by decide)).trans hM118
                have hM_165 : M_161 v119 = .inl (cy 14, 24, .inl (f120)) := (hF2.at hc119 (by decide)).trans hM120
                have hM_166 : M_161 z6 = .inl (cy 14, 40, .inl (f126)) := (hF2.at i6 (by decide)).trans hM126
                have hM_167 : M_161 v144 = .inl (cy 14, 24, .inl (f145)) := (hF2.at hc144 (by decide)).trans hM145
                have hF : fr K L [14, 15, 32, 83, 89, 92, 93, 94, 95, 96, 97, 98, 99] M M_161 := hF.tr hF2 (by decide)
                have hG : fG K L [] M M_161 := hG.frR hF2 (by decide)
                have hV : VW K L M M_161 k1 (fx M k1) (ax M k1) := hV.cal hWb hW hF2 ((fG.rf (js := [])).frR hF2 (by decide)) (by decide) (by decide) ik1
                refine lv_lload hx hb dX13_stretch_174 (lv_at hl 3 rfl) ?_
                refine lv_lload hx hb dX13_stretch_176 (lv_at hl 0 rfl) ?_
                refine lv_lsub hx hb dX13_stretch_178 ?_
                refine lv_topl (fun f_168 ef_168 => ?_)
                refine lv_lstore (lv' := [(7, .long f_168), (11, .long f_158), (10, .int (nI c_111)), (9, .int (nI v9w53)), (6, .int (nI j_24)), (5, .int (nI c_13)), (4, .int (nI c_6)), (0, .ref za), (1, .ref k1), (2, .int (nI k2)), (3, .int k3)]) hx hb dX13_stretch_179 hl (by decide) rfl (fun ls hl => ?_)
                refine lv_iinc (v := (nI (v9w53 + 1))) (lv' := [(9, .int (nI (v9w53 + 1))), (7, .long f_168), (11, .long f_158), (10, .int (nI c_111)), (6, .int (nI j_24)), (5, .int (nI c_13)), (4, .int (nI c_6)), (0, .ref za), (1, .ref k1), (2, .int (nI k2)), (3, .int k3)]) hx hb dX13_stretch_181 hl (k := 3) rfl (nI_1 v9w53) (by decide) rfl (fun ls hl => ?_)
                refine lv_goto (tgt := 91) hx hb dX13_stretch_184 (by decide) ?_
                exact ih_51 f_168 (v9w53 + 1) M_161 H_159 _ _ (by omega) (by omega) hW hF hG hV hP hD hS (lv_sub hl [0, 1, 4, 5, 6, 7, 8, 9, 10] rfl)
        exact key_50 (24 - 0 + 1) f_49 0 M_44 H_42 _ _ (by omega) (by omega) hW hF hG hV hP hD hS (lv_sub hl [0, 1, 2, 3, 4, 5, 6, 7, 8] rfl)
      · have hz := rfl (a := 0)
        have n_169 : ¬ ((c_6 + c_13) ≤ v7w29) := fun q => c_34 ((iLE (a := (c_6 + c_13)) (b := v7w29) (by omega) (by omega)).mpr q)
        refine lv_aload_n hx hb dX13_stretch_38 rfl (lv_at hl 5 rfl) ?_
        obtain ⟨fs170, hM170, hn170, hl170⟩ := hW.open_12 ik1
        obtain ⟨v171, hv171, hc171⟩ : ∃ v : Nat, fs170[47]? = some (.ref v : Value) ∧ isk K L v 93 120 := hl170 47 (by decide)
        refine pg_getN (D := D) (ci := 12) (v := .ref v171) (C := RX12) (T := TX12) (N := 51) hx hb hg inG12 hown hK hP ik1.1 hM170 rfl 47 (by decide) (hN.use (Cond.fieldLinkNest RX13 301 RX12 "result" "[J" RX13) 56 rfl rfl) (fun _ h9 => h9) hv171 dX13_stretch_39 ?_
        refine lv_iload_n hx hb dX13_stretch_42 rfl (lv_at hl 6 rfl) ?_
        refine lv_dup2_11 hx hb dX13_stretch_43 rfl rfl ?_
        obtain ⟨f172, hM172⟩ := hW.open_93 hc171
        refine pg_lald hx hb hK hP hc171.1 1 hM172 rfl (inbN k2 120 (by omega) (by omega)) dX13_stretch_44 ?_
        refine lv_topl (fun f_173 ef_173 => ?_)
        refine lv_aload_n hx hb dX13_stretch_45 rfl (lv_at hl 5 rfl) ?_
        refine lv_iload hx hb dX13_stretch_46 (lv_at hl 0 rfl) ?_
        have hPc : va_P D vwCl ([] ++ va_pl L M_31) H_32 := hP.part (cx := []) [] rfl
        have hDc : va_D A ([] ++ va_pl L M_31) := hD.part (cx := []) [] (by decide) rfl
        have hFc : ∀ q, va_A ([] ++ va_pl L M_31) H_32.size q → A q := pg_free hDc hS hA
        refine va_calll (va_runV (As := [.int (nI v7w29)]) (rest := [.long f_173, .int (nI k2), .ref v171]) ⟨hx, hb, hml, hown, hg⟩ (r_X12_entries l D cy K L M_31 H_32.size k1 v7w29  hW ik1 (by omega)) (cwV 1 hg (gV wd_756 wd_757 wd_758 wd_737 wd_759) rfl rfl rfl (by decide +kernel) ⟨(Nat.le_trans (Nat.le_of_ble_eq_true rfl) hRf), (Nat.le_trans (Nat.le_of_ble_eq_true rfl) hRl)⟩) ⟨PG.blind, pg_recv hK hP ik1.1 hM170 rfl, fun U hU hW => ⟨rfl, PG.at hPc hK hDc hN hU hW⟩⟩ rfl rfl hl.1 rfl (lv_room (Nat.le_of_ble_eq_true rfl)) dX13_stretch_48 ⟨(Nat.le_trans (Nat.le_of_ble_eq_true rfl) hRc), (Nat.le_trans (Nat.le_of_ble_eq_true rfl) hRs)⟩) hS (fun q _ h => hFc q h) hFc (fun r_175 M_176 t H_174 locs ht hvm hw hB hz1 hk1 hS => ?_)
        have hp_177 := hw
        obtain ⟨hP1, hD1⟩ := hB
        rw [ht] at hP1
        obtain ⟨hP, hD⟩ := va_joinP (X := [(za, (b13_0 z0 z1 (nI z2) (nI z3) z4 z5 z6 z7 z8 z9 (nI z10) z11 z12 z13 z14 z15 (nI z16) z17 z18 z19))]) (cx := []) (wr := [(za, (b13_0 z0 z1 (nI z2) (nI z3) z4 z5 z6 z7 z8 z9 (nI z10) z11 z12 z13 z14 z15 (nI z16) z17 z18 z19))]) (rx := []) (pl := va_pl L M_31) (pl1 := va_pl L M_31) hP hD [] [0] rfl rfl (by decide) (by decide) hk1 hFc hP1 hD1
        have hP : va_P D vwCl ([(za, (b13_0 z0 z1 (nI z2) (nI z3) z4 z5 z6 z7 z8 z9 (nI z10) z11 z12 z13 z14 z15 (nI z16) z17 z18 z19))] ++ va_pl L M_31) H_174 := hP
        have hD : va_D A ([(za, (b13_0 z0 z1 (nI z2) (nI z3) z4 z5 z6 z7 z8 z9 (nI z10) z11 z12 z13 z14 z15 (nI z16) z17 z18 z19))] ++ va_pl L M_31) := hD
        refine lv_aload_n hx hb dX13_stretch_51 rfl (lv_at hl 5 rfl) ?_
        obtain ⟨v178, hv178, hc178⟩ : ∃ v : Nat, fs170[6]? = some (.ref v : Value) ∧ isk K L v 86 1000 := hl170 6 (by decide)
        refine pg_getN (D := D) (ci := 12) (v := .ref v178) (C := RX12) (T := TX12) (N := 51) hx hb hg inG12 hown hK hP ik1.1 hM170 rfl 6 (by decide) (hN.use (Cond.fieldLinkNest RX13 328 RX12 "income" "[J" RX13) 15 rfl rfl) (fun _ h9 => h9) hv178 dX13_stretch_52 ?_
        refine lv_iload hx hb dX13_stretch_55 (lv_at hl 0 rfl) ?_
        obtain ⟨f179, hM179⟩ := hW.open_86 hc178
        refine pg_lald hx hb hK hP hc178.1 1 hM179 rfl (inbN v7w29 1000 (by omega) (by omega)) dX13_stretch_57 ?_
        refine lv_topl (fun f_180 ef_180 => ?_)
        refine lv_ladd hx hb dX13_stretch_58 ?_
        refine lv_topl (fun f_181 ef_181 => ?_)
        refine lv_ladd hx hb dX13_stretch_59 ?_
        refine lv_topl (fun f_182 ef_182 => ?_)
        refine pg_last hx hb hK hP hD hS hc171.1 1 hM172 rfl (inbN k2 120 (by omega) (by omega)) dX13_stretch_60 (fun H_183 locs hP hD hS => ?_)
        obtain ⟨M_184, eM_184⟩ : ∃ M1 : Hp, M1 = va_up M_31 v171 (.inl (cy 15, 120, .inr (.inl (vp_updL f172 ((nI k2) : Int32).toNatClampNeg f_182)))) := ⟨_, rfl⟩
        have hV : VW K L M M_184 k1 (fx M k1) (ax M k1) := by rw [eM_184]; exact hV.oth hW ik1 hc171 (by decide)
        have hP : va_P D vwCl ([(za, (b13_0 z0 z1 (nI z2) (nI z3) z4 z5 z6 z7 z8 z9 (nI z10) z11 z12 z13 z14 z15 (nI z16) z17 z18 z19))] ++ va_pl L M_184) H_183 := by rw [eM_184]; exact hP
        have hD : va_D A ([(za, (b13_0 z0 z1 (nI z2) (nI z3) z4 z5 z6 z7 z8 z9 (nI z10) z11 z12 z13 z14 z15 (nI z16) z17 z18 z19))] ++ va_pl L M_184) := by rw [eM_184]; exact hD
        have hW : WOM cy K L M_184 := by rw [eM_184]; exact hW.up_93 hc171 ⟨_, rfl⟩
        have hF : fr K L [14, 15, 32, 83, 89, 92, 93, 94, 95, 96, 97, 98, 99] M M_184 := by rw [eM_184]; exact hF.up hc171 (by decide)
        have hG : fG K L [] M M_184 := by rw [eM_184]; exact hG.arr hc171 (by decide)
        have hM_185 : M_184 v171 = .inl (cy 15, 120, .inr (.inl (vp_updL f172 ((nI k2) : Int32).toNatClampNeg f_182))) := by rw [eM_184]; exact va_up_self _ _ _
        have hM_186 : M_184 k1 = .inr (12, fs170) := by rw [eM_184, va_up_ne _ _ (ik1.neT hc171 (by decide))]; exact hM170
        have hM_187 : M_184 v178 = .inl (cy 15, 1000, .inr (.inl (f179))) := by rw [eM_184, va_up_ne _ _ (hc178.neT hc171 (by decide))]; exact hM179
        obtain ⟨f_188, ef_188⟩ : ∃ f : Nat → Int64, f = vp_updL f172 ((nI k2) : Int32).toNatClampNeg f_182 := ⟨_, rfl⟩
        rw [← ef_188] at hM_185
        refine lv_iinc (v := (nI (v7w29 + 1))) (lv' := [(7, .int (nI (v7w29 + 1))), (6, .int (nI j_24)), (5, .int (nI c_13)), (4, .int (nI c_6)), (0, .ref za), (1, .ref k1), (2, .int (nI k2)), (3, .int k3)]) hx hb dX13_stretch_61 hl (k := 0) rfl (nI_1 v7w29) (by decide) rfl (fun ls hl => ?_)
        refine lv_goto (tgt := 28) hx hb dX13_stretch_64 (by decide) ?_
        exact ih_27 (v7w29 + 1) M_184 H_183 _ _ (by omega) (by omega) hW hF hG hV hP hD hS (lv_sub hl [0, 1, 2, 3, 4, 5, 6, 7] rfl)
  exact key_26 (2000 - c_6 + 1) c_6 M H_20 _ _ (by omega) (by omega) hW hF hG hV hP hD hS (lv_sub hl [0, 1, 2, 3, 4, 5, 6, 7] rfl)
set_option maxHeartbeats 4000000 in
set_option maxRecDepth 100000 in
theorem g_X13_mended (l : Launch) (D : va_G) (cy : Nat → ClassId) (K : Kp) (L : List Nat) (M : Hp) (sz : Nat) (za : Nat) (z0 : Int32) (z1 : Nat) (z2 : Nat) (z3 : Nat) (z4 : Int32) (z5 : Int32) (z6 : Nat) (z7 : Nat) (z8 : Nat) (z9 : Nat) (z10 : Nat) (z11 : Nat) (z12 : Nat) (z13 : Nat) (z14 : Nat) (z15 : Nat) (z16 : Nat) (z17 : Nat) (z18 : Int32) (z19 : Nat) (k1 : Nat) (k2 : Nat) (hW : WOM cy K L M) (i1 : isk K L z1 23 8) (b2 : z2 ≤ 8) (b3 : z3 ≤ 40) (i6 : isk K L z6 47 40) (i7 : isk K L z7 48 40) (i8 : isk K L z8 49 8) (i9 : isk K L z9 50 8) (b10 : z10 ≤ 8) (i11 : isk K L z11 32 24) (i12 : isk K L z12 14 24) (i13 : isk K L z13 97 24) (i14 : isk K L z14 98 24) (i15 : isk K L z15 99 24) (b16 : z16 ≤ 24) (i17 : isk K L z17 14 24) (i19 : isk K L z19 15 25) (ik1 : isk K L k1 12 0) (nk2 : k2 < 20) (hO : OWN K L M) (hFL : FL k1 17 120 M) (hRM : 1 ≤ fx M k1 11) (hDD : HD (fx M k1 0) (fx M k1 11) (fx M k1 15) (ax M k1 34) (ax M k1 41)) (hm : (k2 : Int) < fx M k1 15) : Met l yX13_mended (wsM yX13_mended cX13_mended 4 none) ({ frames := 5, cells := 0, slots := 0, locals := 133 }) (va_Pc [.ref za, .ref k1, .int (nI k2)] (PG D cy [(za, (b13_0 z0 z1 (nI z2) (nI z3) z4 z5 z6 z7 z8 z9 (nI z10) z11 z12 z13 z14 z15 (nI z16) z17 z18 z19))] L M sz)) (va_Qv (fun (M9 : Hp) => WOM cy K L M9 ∧ fr K L [12, 14, 15, 32, 45, 46, 83, 89, 92, 93, 94, 95, 96, 97, 98, 99] M M9 ∧ fG K L [17] M M9 ∧ (∃ (n9 : Nat) (g44 g45 : Nat → Int32), fx M k1 17 = (n9 : Int) ∧ VW K L M M9 k1 (va_up (fx M k1) 17 ((n9 + 1 : Nat) : Int)) (va_up (va_up (ax M k1) 44 g44) 45 g45)) ∧ (True)) (fun M9 t => ∃ (w16 : Nat), w16 ≤ 24 ∧ PQ D [(za, (b13_0 z0 z1 (nI z2) (nI z3) z4 z5 z6 z7 z8 z9 (nI z10) z11 z12 z13 z14 z15 (nI w16) z17 z18 z19))] L M9 (va_A ([(za, (b13_0 z0 z1 (nI z2) (nI z3) z4 z5 z6 z7 z8 z9 (nI z10) z11 z12 z13 z14 z15 (nI z16) z17 z18 z19))] ++ va_pl L M) sz) t) (va_A ([(za, (b13_0 z0 z1 (nI z2) (nI z3) z4 z5 z6 z7 z8 z9 (nI z10) z11 z12 z13 z14 z15 (nI z16) z17 z18 z19))] ++ va_pl L M) sz)) 0 0 (va_A ([(za, (b13_0 z0 z1 (nI z2) (nI z3) z4 z5 z6 z7 z8 z9 (nI z10) z11 z12 z13 z14 z15 (nI z16) z17 z18 z19))] ++ va_pl L M) sz) := by
  refine Met.ofW (cc := cX13_mended) (maxL := 4) (ret := none) (by decide) rfl ?_
  intro p e s m args below meth c s₁ B hml hv
  obtain ⟨rfl, hsz, hP, hK, hD0, hN⟩ := hv
  have hx := B.exec
  have hb := B.bytes
  have hr := B.returns
  have hts := atoms_spec (ws := (wsM yX13_mended cX13_mended 4 none)) B.pre
  have hg : ∀ w ∈ lw_good, w.before _ s = true := fun w h => hts w (List.mem_cons_of_mem _ h)
  have hown : s.vm.findClass RX13 = some m.cls := findClass_of_methodNamed B.named
  have hlocks := B.notSynchronized
  subst hsz
  have hD := hD0.self (sz := s.heap.size)
  generalize hAe : va_A ([(za, (b13_0 z0 z1 (nI z2) (nI z3) z4 z5 z6 z7 z8 z9 (nI z10) z11 z12 z13 z14 z15 (nI z16) z17 z18 z19))] ++ va_pl L M) s.heap.size = A at hD ⊢
  have hA : ∀ q : Nat, s.heap.size ≤ q → A q := fun q h => by rw [← hAe]; exact Or.inr h
  have hS : va_S A s.heap s.heap [] := va_S.rf
  have hl := lv_entry ([.ref za, .ref k1, .int (nI k2)]) (n := 4) (Nat.le_of_ble_eq_true rfl)
  rw [lg_entry_eq]
  generalize (lg_sl ([.ref za, .ref k1, .int (nI k2)]) ++ List.replicate (4 - (lg_sl ([.ref za, .ref k1, .int (nI k2)])).length) Slot.unset).toArray = ls at hl ⊢
  refine W.nameQ (fun Q hQ => ?_)
  refine W.nameR (fun R hR => ?_)
  have hRf : 5 ≤ R.frames := by rw [hR]; exact Nat.le_of_ble_eq_true rfl
  have hRl : 133 ≤ R.locals := by rw [hR]; exact Nat.le_of_ble_eq_true rfl
  have hRc : 0 ≤ R.cells := by rw [hR]; exact Nat.le_of_ble_eq_true rfl
  have hRs : 0 ≤ R.slots := by rw [hR]; exact Nat.le_of_ble_eq_true rfl
  have hF : fr K L [12, 14, 15, 32, 45, 46, 83, 89, 92, 93, 94, 95, 96, 97, 98, 99] M M := fr.rf
  have hG : fG K L [17] M M := fG.rf
  have hl : lv_has ls 4 [(0, .ref za), (1, .ref k1), (2, .int (nI k2))] := hl
  have hW0 := hW
  have hV : VW K L M M k1 (fx M k1) (ax M k1) := VW.rf k1 hO
  obtain ⟨fs1, hM1, hn1, hl1⟩ := hW.open_12 ik1
  obtain ⟨v2, hv2, hc2⟩ : ∃ v : Nat, fs1[17]? = some (.int (nI v) : Value) ∧ v ≤ 120 := hl1 17 (by decide)
  have hfl : v2 < 120 := by
    obtain ⟨fs, n, e1, e2, e3⟩ := hFL
    rw [inr12 (e1.symm.trans hM1)] at e2
    have e4 := Value.int.inj (Option.some.inj (e2.symm.trans hv2))
    have e5 := (iEQ (by omega) (by omega)).mp e4
    omega
  refine lv_aload_n hx hb dX13_mended_0 rfl (lv_at hl 1 rfl) ?_
  refine pg_getN (D := D) (ci := 12) (v := .int (nI v2)) (C := RX12) (T := TX12) (N := 51) hx hb hg inG12 hown hK hP ik1.1 hM1 rfl 17 (by decide) (hN.use (Cond.fieldLinkNest RX13 256 RX12 "stretches" "I" RX13) 26 rfl rfl) (fun _ h9 => h9) hv2 dX13_mended_1 ?_
  refine lv_istore_n (lv' := [(3, .int (nI v2)), (0, .ref za), (1, .ref k1), (2, .int (nI k2))]) hx hb dX13_mended_4 rfl hl (by decide) rfl (fun ls hl => ?_)
  refine lv_aload_n hx hb dX13_mended_5 rfl (lv_at hl 2 rfl) ?_
  refine lv_dup hx hb dX13_mended_6 rfl ?_
  refine pg_getN (D := D) (ci := 12) (v := .int (nI v2)) (C := RX12) (T := TX12) (N := 51) hx hb hg inG12 hown hK hP ik1.1 hM1 rfl 17 (by decide) (hN.use (Cond.fieldLinkNest RX13 256 RX12 "stretches" "I" RX13) 26 rfl rfl) (fun _ h9 => h9) hv2 dX13_mended_7 ?_
  refine lv_iconst (v := 1) hx hb dX13_mended_10 (by decide) ?_
  refine lv_iadd hx hb dX13_mended_11 ?_
  refine lv_topi (fun f_3 ef_3 => ?_)
  obtain rfl : f_3 = (nI (v2 + 1)) := ef_3.trans (nI_add v2 1)
  refine pg_putN (D := D) (ci := 12) (v := .int (nI (v2 + 1))) (ty := .int) (C := RX12) (T := TX12) (N := 51) hx hb hg inG12 tyX12 tyX12_ok nmX12 hown hK hP hD hS ik1.1 hM1 rfl 17 (by decide) (hN.use (Cond.fieldLinkNest RX13 256 RX12 "stretches" "I" RX13) 26 rfl rfl) (fun _ h9 => h9) rfl (by decide +kernel) rfl rfl (by rw [hn1]; decide) dX13_mended_12 (fun H_4 locs hP hD hS => ?_)
  have hs_7 : (fs1.set 17 (.int (nI (v2 + 1))))[17]? = some (.int (nI (v2 + 1))) := List.getElem?_set_self (by rw [hn1]; decide)
  have hk_6 := fld12_set (k := 17) (w := .int (nI (v2 + 1))) hl1 (show fld12 K L 17 (fs1.set 17 (.int (nI (v2 + 1)))) from ⟨(v2 + 1), hs_7, by omega⟩)
  have hn_8 : (fs1.set 17 (.int (nI (v2 + 1)))).length = 51 := by rw [List.length_set]; exact hn1
  have hb_9 : (v2 + 1) ≤ 120 := by omega
  obtain ⟨M_10, eM_10⟩ : ∃ M1 : Hp, M1 = va_up M k1 (.inr (12, fs1.set 17 (.int (nI (v2 + 1))))) := ⟨_, rfl⟩
  have hx17 : (fx M k1 17) = ((v2 : Nat) : Int) := (congrFun hV.2.1 17).symm.trans ((fx_of hM1 rfl hv2).trans (nI_toInt (by omega)))
  have hV : VW K L M M_10 k1 (va_up (fx M k1) 17 (((v2 + 1) : Nat) : Int)) (ax M k1) := by rw [eM_10]; exact hV.put hW ik1 hM1 hn1 rfl (by decide) rfl (nI_toInt (by omega))
  have hP : va_P D vwCl ([(za, (b13_0 z0 z1 (nI z2) (nI z3) z4 z5 z6 z7 z8 z9 (nI z10) z11 z12 z13 z14 z15 (nI z16) z17 z18 z19))] ++ va_pl L M_10) H_4 := by rw [eM_10]; exact hP
  have hD : va_D A ([(za, (b13_0 z0 z1 (nI z2) (nI z3) z4 z5 z6 z7 z8 z9 (nI z10) z11 z12 z13 z14 z15 (nI z16) z17 z18 z19))] ++ va_pl L M_10) := by rw [eM_10]; exact hD
  have hW : WOM cy K L M_10 := by rw [eM_10]; exact hW.up_12 ik1 ⟨_, rfl, hn_8, hk_6⟩
  have hF : fr K L [12, 14, 15, 32, 45, 46, 83, 89, 92, 93, 94, 95, 96, 97, 98, 99] M M_10 := by rw [eM_10]; exact hF.up ik1 (by decide)
  have hG : fG K L [17] M M_10 := by rw [eM_10]; exact hG.up hM1 (by decide)
  have hM_11 : M_10 k1 = .inr (12, fs1.set 17 (.int (nI (v2 + 1)))) := by rw [eM_10]; exact va_up_self _ _ _
  refine lv_aload_n hx hb dX13_mended_15 rfl (lv_at hl 2 rfl) ?_
  obtain ⟨v12, hv12, hc12⟩ : ∃ v : Nat, (fs1.set 17 (.int (nI (v2 + 1))))[44]? = some (.ref v : Value) ∧ isk K L v 45 120 := hk_6 44 (by decide)
  refine pg_getN (D := D) (ci := 12) (v := .ref v12) (C := RX12) (T := TX12) (N := 51) hx hb hg inG12 hown hK hP ik1.1 hM_11 rfl 44 (by decide) (hN.use (Cond.fieldLinkNest RX13 265 RX12 "stretchDay" "[I" RX13) 53 rfl rfl) (fun _ h9 => h9) hv12 dX13_mended_16 ?_
  refine lv_iload_n hx hb dX13_mended_19 rfl (lv_at hl 0 rfl) ?_
  refine lv_aload_n hx hb dX13_mended_20 rfl (lv_at hl 2 rfl) ?_
  obtain ⟨v13, hv13, hc13⟩ : ∃ v : Nat, (fs1.set 17 (.int (nI (v2 + 1))))[41]? = some (.ref v : Value) ∧ isk K L v 44 20 := hk_6 41 (by decide)
  refine pg_getN (D := D) (ci := 12) (v := .ref v13) (C := RX12) (T := TX12) (N := 51) hx hb hg inG12 hown hK hP ik1.1 hM_11 rfl 41 (by decide) (hN.use (Cond.fieldLinkNest RX13 358 RX12 "mendDay" "[I" RX13) 50 rfl rfl) (fun _ h9 => h9) hv13 dX13_mended_21 ?_
  refine lv_iload_n hx hb dX13_mended_24 rfl (lv_at hl 3 rfl) ?_
  obtain ⟨f14, hM14, hf14⟩ := hW.open_44 hc13
  have hi_15 : vp_in (nI k2) 20 := (inbN k2 20 (by omega) (by omega))
  refine pg_iald hx hb hK hP hc13.1 0 hM14 rfl hi_15 dX13_mended_25 ?_
  have hp_16 := hf14 _ (vp_lt hi_15)
  obtain ⟨c_17, hc_18, ec_19⟩ := hp_16
  rw [ec_19]
  obtain ⟨f20, hM20, hf20⟩ := hW.open_45 hc12
  refine pg_iast hx hb hK hP hD hS hc12.1 0 hM20 rfl (inbN v2 120 (by omega) (by omega)) dX13_mended_26 (fun H_21 locs hP hD hS => ?_)
  obtain ⟨M_22, eM_22⟩ : ∃ M1 : Hp, M1 = va_up M_10 v12 (.inl (cy 14, 120, .inl (upd f20 ((nI v2) : Int32).toNatClampNeg (nI c_17)))) := ⟨_, rfl⟩
  have hy44 : (ax M k1 44) = f20 := (congrFun hV.2.2.1 44).symm.trans (ax_of hM_11 (by decide) hv12 hM20)
  have hV : VW K L M M_22 k1 (va_up (fx M k1) 17 (((v2 + 1) : Nat) : Int)) (va_up (ax M k1) 44 (upd (ax M k1 44) ((nI v2) : Int32).toNatClampNeg (nI c_17))) := by rw [eM_22]; exact hV.ast (j := 44) hW ik1 hM_11 (by decide) hv12 hc12 hM20
  have hP : va_P D vwCl ([(za, (b13_0 z0 z1 (nI z2) (nI z3) z4 z5 z6 z7 z8 z9 (nI z10) z11 z12 z13 z14 z15 (nI z16) z17 z18 z19))] ++ va_pl L M_22) H_21 := by rw [eM_22]; exact hP
  have hD : va_D A ([(za, (b13_0 z0 z1 (nI z2) (nI z3) z4 z5 z6 z7 z8 z9 (nI z10) z11 z12 z13 z14 z15 (nI z16) z17 z18 z19))] ++ va_pl L M_22) := by rw [eM_22]; exact hD
  have hW : WOM cy K L M_22 := by rw [eM_22]; exact hW.up_45 hc12 ⟨_, rfl, (updP (P := fun z => ∃ c : Nat, c < 1000 ∧ z = nI c) hf20 ⟨c_17, by omega, rfl⟩)⟩
  have hF : fr K L [12, 14, 15, 32, 45, 46, 83, 89, 92, 93, 94, 95, 96, 97, 98, 99] M M_22 := by rw [eM_22]; exact hF.up hc12 (by decide)
  have hG : fG K L [17] M M_22 := by rw [eM_22]; exact hG.arr hc12 (by decide)
  have hM_23 : M_22 v12 = .inl (cy 14, 120, .inl (upd f20 ((nI v2) : Int32).toNatClampNeg (nI c_17))) := by rw [eM_22]; exact va_up_self _ _ _
  have hM_24 : M_22 k1 = .inr (12, fs1.set 17 (.int (nI (v2 + 1)))) := by rw [eM_22, va_up_ne _ _ (ik1.neT hc12 (by decide))]; exact hM_11
  have hM_25 : M_22 v13 = .inl (cy 14, 20, .inl (f14)) := by rw [eM_22, va_up_ne _ _ (hc13.neT hc12 (by decide))]; exact hM14
  have hf_27 : ∀ j, j < 120 → ∃ c : Nat, c < 1000 ∧ (upd f20 ((nI v2) : Int32).toNatClampNeg (nI c_17)) j = nI c := (updP (P := fun z => ∃ c : Nat, c < 1000 ∧ z = nI c) hf20 ⟨c_17, by omega, rfl⟩)
  obtain ⟨f_26, ef_26⟩ : ∃ f : Nat → Int32, f = upd f20 ((nI v2) : Int32).toNatClampNeg (nI c_17) := ⟨_, rfl⟩
  rw [← ef_26] at hM_23 hf_27
  have hy41 : (ax M k1 41) = f14 := (congrFun hV.2.2.1 41).symm.trans (ax_of hM_24 (by decide) hv13 hM_25)
  have hdy : fx M k1 0 ≤ ((nI c_17) : Int32).toInt := by
    have h := ec_19
    rw [nI_cl (by omega)] at h
    rw [← h, ← hy41]
    exact hDD.2 k2 (by omega) hm
  refine lv_aload_n hx hb dX13_mended_27 rfl (lv_at hl 2 rfl) ?_
  obtain ⟨v28, hv28, hc28⟩ : ∃ v : Nat, (fs1.set 17 (.int (nI (v2 + 1))))[45]? = some (.ref v : Value) ∧ isk K L v 46 120 := hk_6 45 (by decide)
  refine pg_getN (D := D) (ci := 12) (v := .ref v28) (C := RX12) (T := TX12) (N := 51) hx hb hg inG12 hown hK hP ik1.1 hM_24 rfl 45 (by decide) (hN.use (Cond.fieldLinkNest RX13 268 RX12 "stretchDays" "[I" RX13) 54 rfl rfl) (fun _ h9 => h9) hv28 dX13_mended_28 ?_
  refine lv_iload_n hx hb dX13_mended_31 rfl (lv_at hl 0 rfl) ?_
  refine lv_iconst (v := 0) hx hb dX13_mended_32 (by decide) ?_
  obtain ⟨f29, hM29, hf29⟩ := hW.open_46 hc28
  refine pg_iast hx hb hK hP hD hS hc28.1 0 hM29 rfl (inbN v2 120 (by omega) (by omega)) dX13_mended_33 (fun H_30 locs hP hD hS => ?_)
  obtain ⟨M_31, eM_31⟩ : ∃ M1 : Hp, M1 = va_up M_22 v28 (.inl (cy 14, 120, .inl (upd f29 ((nI v2) : Int32).toNatClampNeg 0))) := ⟨_, rfl⟩
  have hy45 : (ax M k1 45) = f29 := (congrFun hV.2.2.1 45).symm.trans (ax_of hM_24 (by decide) hv28 hM29)
  have hV : VW K L M M_31 k1 (va_up (fx M k1) 17 (((v2 + 1) : Nat) : Int)) (va_up (va_up (ax M k1) 44 (upd (ax M k1 44) ((nI v2) : Int32).toNatClampNeg (nI c_17))) 45 (upd (ax M k1 45) ((nI v2) : Int32).toNatClampNeg 0)) := by rw [eM_31]; exact hV.ast (j := 45) hW ik1 hM_24 (by decide) hv28 hc28 hM29
  have hP : va_P D vwCl ([(za, (b13_0 z0 z1 (nI z2) (nI z3) z4 z5 z6 z7 z8 z9 (nI z10) z11 z12 z13 z14 z15 (nI z16) z17 z18 z19))] ++ va_pl L M_31) H_30 := by rw [eM_31]; exact hP
  have hD : va_D A ([(za, (b13_0 z0 z1 (nI z2) (nI z3) z4 z5 z6 z7 z8 z9 (nI z10) z11 z12 z13 z14 z15 (nI z16) z17 z18 z19))] ++ va_pl L M_31) := by rw [eM_31]; exact hD
  have hW : WOM cy K L M_31 := by rw [eM_31]; exact hW.up_46 hc28 ⟨_, rfl, (updP (P := fun z => ∃ c : Nat, c < 1001 ∧ z = nI c) hf29 ⟨0, by omega, rfl⟩)⟩
  have hF : fr K L [12, 14, 15, 32, 45, 46, 83, 89, 92, 93, 94, 95, 96, 97, 98, 99] M M_31 := by rw [eM_31]; exact hF.up hc28 (by decide)
  have hG : fG K L [17] M M_31 := by rw [eM_31]; exact hG.arr hc28 (by decide)
  have hM_32 : M_31 v28 = .inl (cy 14, 120, .inl (upd f29 ((nI v2) : Int32).toNatClampNeg 0)) := by rw [eM_31]; exact va_up_self _ _ _
  have hM_33 : M_31 v12 = .inl (cy 14, 120, .inl (f_26)) := by rw [eM_31, va_up_ne _ _ (hc12.neT hc28 (by decide))]; exact hM_23
  have hM_34 : M_31 k1 = .inr (12, fs1.set 17 (.int (nI (v2 + 1)))) := by rw [eM_31, va_up_ne _ _ (ik1.neT hc28 (by decide))]; exact hM_24
  have hM_35 : M_31 v13 = .inl (cy 14, 20, .inl (f14)) := by rw [eM_31, va_up_ne _ _ (hc13.neT hc28 (by decide))]; exact hM_25
  have hf_37 : ∀ j, j < 120 → ∃ c : Nat, c < 1001 ∧ (upd f29 ((nI v2) : Int32).toNatClampNeg 0) j = nI c := (updP (P := fun z => ∃ c : Nat, c < 1001 ∧ z = nI c) hf29 ⟨0, by omega, rfl⟩)
  obtain ⟨f_36, ef_36⟩ : ∃ f : Nat → Int32, f = upd f29 ((nI v2) : Int32).toNatClampNeg 0 := ⟨_, rfl⟩
  rw [← ef_36] at hM_32 hf_37
  refine lv_aload_n hx hb dX13_mended_34 rfl (lv_at hl 2 rfl) ?_
  obtain ⟨v38, hv38, hc38⟩ : ∃ v : Nat, (fs1.set 17 (.int (nI (v2 + 1))))[47]? = some (.ref v : Value) ∧ isk K L v 93 120 := hk_6 47 (by decide)
  refine pg_getN (D := D) (ci := 12) (v := .ref v38) (C := RX12) (T := TX12) (N := 51) hx hb hg inG12 hown hK hP ik1.1 hM_34 rfl 47 (by decide) (hN.use (Cond.fieldLinkNest RX13 301 RX12 "result" "[J" RX13) 56 rfl rfl) (fun _ h9 => h9) hv38 dX13_mended_35 ?_
  refine lv_iload_n hx hb dX13_mended_38 rfl (lv_at hl 0 rfl) ?_
  refine lv_aload_n hx hb dX13_mended_39 rfl (lv_at hl 2 rfl) ?_
  obtain ⟨v39, hv39, hc39⟩ : ∃ v : Nat, (fs1.set 17 (.int (nI (v2 + 1))))[42]? = some (.ref v : Value) ∧ isk K L v 82 20 := hk_6 42 (by decide)
  refine pg_getN (D := D) (ci := 12) (v := .ref v39) (C := RX12) (T := TX12) (N := 51) hx hb hg inG12 hown hK hP ik1.1 hM_34 rfl 42 (by decide) (hN.use (Cond.fieldLinkNest RX13 361 RX12 "mendSum" "[I" RX13) 51 rfl rfl) (fun _ h9 => h9) hv39 dX13_mended_40 ?_
  refine lv_iload_n hx hb dX13_mended_43 rfl (lv_at hl 3 rfl) ?_
  obtain ⟨f40, hM40⟩ := hW.open_82 hc39
  refine pg_iald hx hb hK hP hc39.1 0 hM40 rfl (inbN k2 20 (by omega) (by omega)) dX13_mended_44 ?_
  refine lv_topi (fun f_41 ef_41 => ?_)
  refine lv_i2l hx hb dX13_mended_45 rfl ?_
  refine lv_topl (fun f_42 ef_42 => ?_)
  obtain ⟨f43, hM43⟩ := hW.open_93 hc38
  refine pg_last hx hb hK hP hD hS hc38.1 1 hM43 rfl (inbN v2 120 (by omega) (by omega)) dX13_mended_46 (fun H_44 locs hP hD hS => ?_)
  obtain ⟨M_45, eM_45⟩ : ∃ M1 : Hp, M1 = va_up M_31 v38 (.inl (cy 15, 120, .inr (.inl (vp_updL f43 ((nI v2) : Int32).toNatClampNeg f_42)))) := ⟨_, rfl⟩
  have hV : VW K L M M_45 k1 (va_up (fx M k1) 17 (((v2 + 1) : Nat) : Int)) (va_up (va_up (ax M k1) 44 (upd (ax M k1 44) ((nI v2) : Int32).toNatClampNeg (nI c_17))) 45 (upd (ax M k1 45) ((nI v2) : Int32).toNatClampNeg 0)) := by rw [eM_45]; exact hV.oth hW ik1 hc38 (by decide)
  have hP : va_P D vwCl ([(za, (b13_0 z0 z1 (nI z2) (nI z3) z4 z5 z6 z7 z8 z9 (nI z10) z11 z12 z13 z14 z15 (nI z16) z17 z18 z19))] ++ va_pl L M_45) H_44 := by rw [eM_45]; exact hP
  have hD : va_D A ([(za, (b13_0 z0 z1 (nI z2) (nI z3) z4 z5 z6 z7 z8 z9 (nI z10) z11 z12 z13 z14 z15 (nI z16) z17 z18 z19))] ++ va_pl L M_45) := by rw [eM_45]; exact hD
  have hW : WOM cy K L M_45 := by rw [eM_45]; exact hW.up_93 hc38 ⟨_, rfl⟩
  have hF : fr K L [12, 14, 15, 32, 45, 46, 83, 89, 92, 93, 94, 95, 96, 97, 98, 99] M M_45 := by rw [eM_45]; exact hF.up hc38 (by decide)
  have hG : fG K L [17] M M_45 := by rw [eM_45]; exact hG.arr hc38 (by decide)
  have hM_46 : M_45 v38 = .inl (cy 15, 120, .inr (.inl (vp_updL f43 ((nI v2) : Int32).toNatClampNeg f_42))) := by rw [eM_45]; exact va_up_self _ _ _
  have hM_47 : M_45 v28 = .inl (cy 14, 120, .inl (f_36)) := by rw [eM_45, va_up_ne _ _ (hc28.neT hc38 (by decide))]; exact hM_32
  have hM_48 : M_45 v12 = .inl (cy 14, 120, .inl (f_26)) := by rw [eM_45, va_up_ne _ _ (hc12.neT hc38 (by decide))]; exact hM_33
  have hM_49 : M_45 k1 = .inr (12, fs1.set 17 (.int (nI (v2 + 1)))) := by rw [eM_45, va_up_ne _ _ (ik1.neT hc38 (by decide))]; exact hM_34
  have hM_50 : M_45 v13 = .inl (cy 14, 20, .inl (f14)) := by rw [eM_45, va_up_ne _ _ (hc13.neT hc38 (by decide))]; exact hM_35
  have hM_51 : M_45 v39 = .inl (cy 14, 20, .inl (f40)) := by rw [eM_45, va_up_ne _ _ (hc39.neT hc38 (by decide))]; exact hM40
  obtain ⟨f_52, ef_52⟩ : ∃ f : Nat → Int64, f = vp_updL f43 ((nI v2) : Int32).toNatClampNeg f_42 := ⟨_, rfl⟩
  rw [← ef_52] at hM_46
  refine lv_aload_n hx hb dX13_mended_47 rfl (lv_at hl 1 rfl) ?_
  refine lv_aload_n hx hb dX13_mended_48 rfl (lv_at hl 2 rfl) ?_
  refine lv_aload_n hx hb dX13_mended_49 rfl (lv_at hl 2 rfl) ?_
  refine pg_getN (D := D) (ci := 12) (v := .ref v13) (C := RX12) (T := TX12) (N := 51) hx hb hg inG12 hown hK hP ik1.1 hM_49 rfl 41 (by decide) (hN.use (Cond.fieldLinkNest RX13 358 RX12 "mendDay" "[I" RX13) 50 rfl rfl) (fun _ h9 => h9) hv13 dX13_mended_50 ?_
  refine lv_iload_n hx hb dX13_mended_53 rfl (lv_at hl 3 rfl) ?_
  refine pg_iald hx hb hK hP hc13.1 0 hM_50 rfl (inbN k2 20 (by omega) (by omega)) dX13_mended_54 ?_
  rw [ec_19]
  have hPc : va_P D vwCl ([(za, (b13_0 z0 z1 (nI z2) (nI z3) z4 z5 z6 z7 z8 z9 (nI z10) z11 z12 z13 z14 z15 (nI z16) z17 z18 z19))] ++ va_pl L M_45) H_44 := hP
  have hDc : va_D A ([(za, (b13_0 z0 z1 (nI z2) (nI z3) z4 z5 z6 z7 z8 z9 (nI z10) z11 z12 z13 z14 z15 (nI z16) z17 z18 z19))] ++ va_pl L M_45) := hD
  have hFc : ∀ q, va_A ([(za, (b13_0 z0 z1 (nI z2) (nI z3) z4 z5 z6 z7 z8 z9 (nI z10) z11 z12 z13 z14 z15 (nI z16) z17 z18 z19))] ++ va_pl L M_45) H_44.size q → A q := pg_free hDc hS hA
  refine va_callv (va_runV (As := [.ref k1, .int (nI c_17)]) (rest := []) ⟨hx, hb, hml, hown, hg⟩ (r_X13_present l D cy K L M_45 H_44.size za z0 z1 z2 z3 z4 z5 z6 z7 z8 z9 z10 z11 z12 z13 z14 z15 z16 z17 z18 z19 k1 (nI c_17)  hW i1 b2 b3 i6 i7 i8 i9 b10 i11 i12 i13 i14 i15 b16 i17 i19 ik1) (cwV 2 hg (gV wd_811 wd_812 wd_813 wd_717 wd_814) rfl rfl rfl (by decide +kernel) ⟨(Nat.le_trans (Nat.le_of_ble_eq_true rfl) hRf), (Nat.le_trans (Nat.le_of_ble_eq_true rfl) hRl)⟩) ⟨PG.blind, va_recv hK hP (ci := 13) (q0 := 0) rfl rfl, fun U hU hW => ⟨rfl, PG.at hPc hK hDc hN hU hW⟩⟩ rfl rfl hl.1 rfl (lv_room (Nat.le_of_ble_eq_true rfl)) dX13_mended_55 ⟨(Nat.le_trans (Nat.le_of_ble_eq_true rfl) hRc), (Nat.le_trans (Nat.le_of_ble_eq_true rfl) hRs)⟩) hS (fun q _ h => hFc q h) hFc (fun M_55 t H_53 locs ht hvm hw hB hz1 hk1 hS => ?_)
  have hWb := hW
  obtain ⟨hW, hF2, hp_56⟩ := hw
  obtain ⟨w16_57, hg_58, hP1, hD1⟩ := hB
  rw [ht] at hP1
  have hP : va_P D vwCl ([(za, (b13_0 z0 z1 (nI z2) (nI z3) z4 z5 z6 z7 z8 z9 (nI z10) z11 z12 z13 z14 z15 (nI w16_57) z17 z18 z19))] ++ va_pl L M_55) H_53 := hP1
  have hD : va_D A ([(za, (b13_0 z0 z1 (nI z2) (nI z3) z4 z5 z6 z7 z8 z9 (nI z10) z11 z12 z13 z14 z15 (nI w16_57) z17 z18 z19))] ++ va_pl L M_55) := hD1.mono hFc
  have hM_59 : M_55 v38 = .inl (cy 15, 120, .inr (.inl (f_52))) := (hF2.at hc38 (by decide)).trans hM_46
  have hM_60 : M_55 v28 = .inl (cy 14, 120, .inl (f_36)) := (hF2.at hc28 (by decide)).trans hM_47
  have hM_61 : M_55 v12 = .inl (cy 14, 120, .inl (f_26)) := (hF2.at hc12 (by decide)).trans hM_48
  have hM_62 : M_55 k1 = .inr (12, fs1.set 17 (.int (nI (v2 + 1)))) := (hF2.at ik1 (by decide)).trans hM_49
  have hM_63 : M_55 v13 = .inl (cy 14, 20, .inl (f14)) := (hF2.at hc13 (by decide)).trans hM_50
  have hM_64 : M_55 v39 = .inl (cy 14, 20, .inl (f40)) := (hF2.at hc39 (by decide)).trans hM_51
  have hF : fr K L [12, 14, 15, 32, 45, 46, 83, 89, 92, 93, 94, 95, 96, 97, 98, 99] M M_55 := hF.tr hF2 (by decide)
  have hG : fG K L [17] M M_55 := hG.frR hF2 (by decide)
  have hV : VW K L M M_55 k1 (va_up (fx M k1) 17 (((v2 + 1) : Nat) : Int)) (va_up (va_up (ax M k1) 44 (upd (ax M k1 44) ((nI v2) : Int32).toNatClampNeg (nI c_17))) 45 (upd (ax M k1 45) ((nI v2) : Int32).toNatClampNeg 0)) := hV.cal hWb hW hF2 ((fG.rf (js := [])).frR hF2 (by decide)) (by decide) (by decide) ik1
  refine lv_aload_n hx hb dX13_mended_58 rfl (lv_at hl 1 rfl) ?_
  refine lv_aload_n hx hb dX13_mended_59 rfl (lv_at hl 2 rfl) ?_
  refine lv_iload_n hx hb dX13_mended_60 rfl (lv_at hl 0 rfl) ?_
  have hPc : va_P D vwCl ([(za, (b13_0 z0 z1 (nI z2) (nI z3) z4 z5 z6 z7 z8 z9 (nI z10) z11 z12 z13 z14 z15 (nI w16_57) z17 z18 z19))] ++ va_pl L M_55) H_53 := hP
  have hDc : va_D A ([(za, (b13_0 z0 z1 (nI z2) (nI z3) z4 z5 z6 z7 z8 z9 (nI z10) z11 z12 z13 z14 z15 (nI w16_57) z17 z18 z19))] ++ va_pl L M_55) := hD
  have hFc : ∀ q, va_A ([(za, (b13_0 z0 z1 (nI z2) (nI z3) z4 z5 z6 z7 z8 z9 (nI z10) z11 z12 z13 z14 z15 (nI w16_57) z17 z18 z19))] ++ va_pl L M_55) H_53.size q → A q := pg_free hDc hS hA
  refine va_callv (va_runV (As := [.ref k1, .int (nI v2)]) (rest := []) ⟨hx, hb, hml, hown, hg⟩ (r_X13_clears l D cy K L M_55 H_53.size za z0 z1 z2 z3 z4 z5 z6 z7 z8 z9 z10 z11 z12 z13 z14 z15 w16_57 z17 z18 z19 k1 v2  hW i1 b2 b3 i6 i7 i8 i9 b10 i11 i12 i13 i14 i15 (by omega) i17 i19 ik1 (by omega)) (cwV 2 hg (gV wd_841 wd_842 wd_843 wd_717 wd_844) rfl rfl rfl (by decide +kernel) ⟨(Nat.le_trans (Nat.le_of_ble_eq_true rfl) hRf), (Nat.le_trans (Nat.le_of_ble_eq_true rfl) hRl)⟩) ⟨PG.blind, va_recv hK hP (ci := 13) (q0 := 0) rfl rfl, fun U hU hW => ⟨rfl, PG.at hPc hK hDc hN hU hW⟩⟩ rfl rfl hl.1 rfl (lv_room (Nat.le_of_ble_eq_true rfl)) dX13_mended_61 ⟨(Nat.le_trans (Nat.le_of_ble_eq_true rfl) hRc), (Nat.le_trans (Nat.le_of_ble_eq_true rfl) hRs)⟩) hS (fun q _ h => hFc q h) hFc (fun M_67 t H_65 locs ht hvm hw hB hz1 hk1 hS => ?_)
  have hWb := hW
  obtain ⟨hW, hF2, hp_68⟩ := hw
  obtain ⟨hP1, hD1⟩ := hB
  rw [ht] at hP1
  have hP : va_P D vwCl ([(za, (b13_0 z0 z1 (nI z2) (nI z3) z4 z5 z6 z7 z8 z9 (nI z10) z11 z12 z13 z14 z15 (nI w16_57) z17 z18 z19))] ++ va_pl L M_67) H_65 := hP1
  have hD : va_D A ([(za, (b13_0 z0 z1 (nI z2) (nI z3) z4 z5 z6 z7 z8 z9 (nI z10) z11 z12 z13 z14 z15 (nI w16_57) z17 z18 z19))] ++ va_pl L M_67) := hD1.mono hFc
  have hM_69 : M_67 v38 = .inl (cy 15, 120, .inr (.inl (f_52))) := (hF2.at hc38 (by decide)).trans hM_59
  have hM_70 : M_67 v28 = .inl (cy 14, 120, .inl (f_36)) := (hF2.at hc28 (by decide)).trans hM_60
  have hM_71 : M_67 v12 = .inl (cy 14, 120, .inl (f_26)) := (hF2.at hc12 (by decide)).trans hM_61
  have hM_72 : M_67 k1 = .inr (12, fs1.set 17 (.int (nI (v2 + 1)))) := (hF2.at ik1 (by decide)).trans hM_62
  have hM_73 : M_67 v13 = .inl (cy 14, 20, .inl (f14)) := (hF2.at hc13 (by decide)).trans hM_63
  have hM_74 : M_67 v39 = .inl (cy 14, 20, .inl (f40)) := (hF2.at hc39 (by decide)).trans hM_64
  have hF : fr K L [12, 14, 15, 32, 45, 46, 83, 89, 92, 93, 94, 95, 96, 97, 98, 99] M M_67 := hF.tr hF2 (by decide)
  have hG : fG K L [17] M M_67 := hG.frR hF2 (by decide)
  have hV : VW K L M M_67 k1 (va_up (fx M k1) 17 (((v2 + 1) : Nat) : Int)) (va_up (va_up (ax M k1) 44 (upd (ax M k1 44) ((nI v2) : Int32).toNatClampNeg (nI c_17))) 45 (upd (ax M k1 45) ((nI v2) : Int32).toNatClampNeg 0)) := hV.cal hWb hW hF2 ((fG.rf (js := [])).frR hF2 (by decide)) (by decide) (by decide) ik1
  refine lv_aload_n hx hb dX13_mended_64 rfl (lv_at hl 1 rfl) ?_
  refine lv_aload_n hx hb dX13_mended_65 rfl (lv_at hl 2 rfl) ?_
  refine lv_iload_n hx hb dX13_mended_66 rfl (lv_at hl 0 rfl) ?_
  refine lv_aload_n hx hb dX13_mended_67 rfl (lv_at hl 2 rfl) ?_
  refine lv_aload_n hx hb dX13_mended_68 rfl (lv_at hl 2 rfl) ?_
  refine pg_getN (D := D) (ci := 12) (v := .ref v13) (C := RX12) (T := TX12) (N := 51) hx hb hg inG12 hown hK hP ik1.1 hM_72 rfl 41 (by decide) (hN.use (Cond.fieldLinkNest RX13 358 RX12 "mendDay" "[I" RX13) 50 rfl rfl) (fun _ h9 => h9) hv13 dX13_mended_69 ?_
  refine lv_iload_n hx hb dX13_mended_72 rfl (lv_at hl 3 rfl) ?_
  refine pg_iald hx hb hK hP hc13.1 0 hM_73 rfl (inbN k2 20 (by omega) (by omega)) dX13_mended_73 ?_
  rw [ec_19]
  have hPc : va_P D vwCl ([] ++ va_pl L M_67) H_65 := hP.part (cx := []) [] rfl
  have hDc : va_D A ([] ++ va_pl L M_67) := hD.part (cx := []) [] (by decide) rfl
  have hFc : ∀ q, va_A ([] ++ va_pl L M_67) H_65.size q → A q := pg_free hDc hS hA
  obtain ⟨v75, hv75, hc75⟩ : ∃ v : Nat, (fs1.set 17 (.int (nI (v2 + 1))))[0]? = some (.int (nI v) : Value) ∧ v ≤ 999 := hk_6 0 (by decide)
  have hx0 : (fx M k1 0) = ((v75 : Nat) : Int) := (congrFun hV.2.1 0).symm.trans ((fx_of hM_72 rfl hv75).trans (nI_toInt (by omega)))
  obtain ⟨v76, hv76, hc76⟩ : ∃ v : Nat, (fs1.set 17 (.int (nI (v2 + 1))))[11]? = some (.int (nI v) : Value) ∧ v ≤ 16 := hk_6 11 (by decide)
  have hx11 : (fx M k1 11) = ((v76 : Nat) : Int) := (congrFun hV.2.1 11).symm.trans ((fx_of hM_72 rfl hv76).trans (nI_toInt (by omega)))
  obtain ⟨v77, hv77, hc77⟩ : ∃ v : Nat, (fs1.set 17 (.int (nI (v2 + 1))))[34]? = some (.ref v : Value) ∧ isk K L v 43 16 := hk_6 34 (by decide)
  obtain ⟨f78, hM78⟩ := hW.open_43 hc77
  have hy34 : (ax M k1 34) = f78 := (congrFun hV.2.2.1 34).symm.trans (ax_of hM_72 (by decide) hv77 hM78)
  refine va_calli (va_runV (As := [.int (nI c_17)]) (rest := [.int (nI v2), .ref k1, .ref za]) ⟨hx, hb, hml, hown, hg⟩ (r_ruleOnP l D cy K L M_67 H_65.size k1 (nI c_17)  hW ik1 ⟨_, _, _, _, hM_72, hv76, by omega, by omega, hv77, hc77, hM78, rldp hy34 (hDD.1 hRM) hdy⟩) (cwV 1 hg (gV wd_815 wd_816 wd_817 wd_737 wd_818) rfl rfl rfl (by decide +kernel) ⟨(Nat.le_trans (Nat.le_of_ble_eq_true rfl) hRf), (Nat.le_trans (Nat.le_of_ble_eq_true rfl) hRl)⟩) ⟨PG.blind, pg_recv hK hP ik1.1 hM_72 rfl, fun U hU hW => ⟨rfl, PG.at hPc hK hDc hN hU hW⟩⟩ rfl rfl hl.1 rfl (lv_room (Nat.le_of_ble_eq_true rfl)) dX13_mended_74 ⟨(Nat.le_trans (Nat.le_of_ble_eq_true rfl) hRc), (Nat.le_trans (Nat.le_of_ble_eq_true rfl) hRs)⟩) hS (fun q _ h => hFc q h) hFc (fun r_80 M_81 t H_79 locs ht hvm hw hB hz1 hk1 hS => ?_)
  have hp_82 := hw
  obtain ⟨hP1, hD1⟩ := hB
  rw [ht] at hP1
  obtain ⟨hP, hD⟩ := va_joinP (X := [(za, (b13_0 z0 z1 (nI z2) (nI z3) z4 z5 z6 z7 z8 z9 (nI z10) z11 z12 z13 z14 z15 (nI w16_57) z17 z18 z19))]) (cx := []) (wr := [(za, (b13_0 z0 z1 (nI z2) (nI z3) z4 z5 z6 z7 z8 z9 (nI z10) z11 z12 z13 z14 z15 (nI w16_57) z17 z18 z19))]) (rx := []) (pl := va_pl L M_67) (pl1 := va_pl L M_67) hP hD [] [0] rfl rfl (by decide) (by decide) hk1 hFc hP1 hD1
  have hP : va_P D vwCl ([(za, (b13_0 z0 z1 (nI z2) (nI z3) z4 z5 z6 z7 z8 z9 (nI z10) z11 z12 z13 z14 z15 (nI w16_57) z17 z18 z19))] ++ va_pl L M_67) H_79 := hP
  have hD : va_D A ([(za, (b13_0 z0 z1 (nI z2) (nI z3) z4 z5 z6 z7 z8 z9 (nI z10) z11 z12 z13 z14 z15 (nI w16_57) z17 z18 z19))] ++ va_pl L M_67) := hD
  obtain ⟨j_83, rfl, c_84⟩ := hp_82
  refine lv_aload_n hx hb dX13_mended_77 rfl (lv_at hl 2 rfl) ?_
  refine pg_getN (D := D) (ci := 12) (v := .ref v39) (C := RX12) (T := TX12) (N := 51) hx hb hg inG12 hown hK hP ik1.1 hM_72 rfl 42 (by decide) (hN.use (Cond.fieldLinkNest RX13 361 RX12 "mendSum" "[I" RX13) 51 rfl rfl) (fun _ h9 => h9) hv39 dX13_mended_78 ?_
  refine lv_iload_n hx hb dX13_mended_81 rfl (lv_at hl 3 rfl) ?_
  refine pg_iald hx hb hK hP hc39.1 0 hM_74 rfl (inbN k2 20 (by omega) (by omega)) dX13_mended_82 ?_
  refine lv_topi (fun f_85 ef_85 => ?_)
  refine lv_i2l hx hb dX13_mended_83 rfl ?_
  refine lv_topl (fun f_86 ef_86 => ?_)
  have hPc : va_P D vwCl ([(za, (b13_0 z0 z1 (nI z2) (nI z3) z4 z5 z6 z7 z8 z9 (nI z10) z11 z12 z13 z14 z15 (nI w16_57) z17 z18 z19))] ++ va_pl L M_67) H_79 := hP
  have hDc : va_D A ([(za, (b13_0 z0 z1 (nI z2) (nI z3) z4 z5 z6 z7 z8 z9 (nI z10) z11 z12 z13 z14 z15 (nI w16_57) z17 z18 z19))] ++ va_pl L M_67) := hD
  have hFc : ∀ q, va_A ([(za, (b13_0 z0 z1 (nI z2) (nI z3) z4 z5 z6 z7 z8 z9 (nI z10) z11 z12 z13 z14 z15 (nI w16_57) z17 z18 z19))] ++ va_pl L M_67) H_79.size q → A q := pg_free hDc hS hA
  refine va_callv (va_runV (As := [.ref k1, .int (nI v2), .int (nI j_83), .long f_86]) (rest := []) ⟨hx, hb, hml, hown, hg⟩ (r_X13_shares l D cy K L M_67 H_79.size za z0 z1 z2 z3 z4 z5 z6 z7 z8 z9 z10 z11 z12 z13 z14 z15 w16_57 z17 z18 z19 k1 v2 j_83 f_86  hW i1 b2 b3 i6 i7 i8 i9 b10 i11 i12 i13 i14 i15 (by omega) i17 i19 ik1 (by omega) c_84) (cwV 4 hg (gV wd_845 wd_846 wd_847 wd_717 wd_848) rfl rfl rfl (by decide +kernel) ⟨(Nat.le_trans (Nat.le_of_ble_eq_true rfl) hRf), (Nat.le_trans (Nat.le_of_ble_eq_true rfl) hRl)⟩) ⟨PG.blind, va_recv hK hP (ci := 13) (q0 := 0) rfl rfl, fun U hU hW => ⟨rfl, PG.at hPc hK hDc hN hU hW⟩⟩ rfl rfl hl.1 rfl (lv_room (Nat.le_of_ble_eq_true rfl)) dX13_mended_84 ⟨(Nat.le_trans (Nat.le_of_ble_eq_true rfl) hRc), (Nat.le_trans (Nat.le_of_ble_eq_true rfl) hRs)⟩) hS (fun q _ h => hFc q h) hFc (fun M_89 t H_87 locs ht hvm hw hB hz1 hk1 hS => ?_)
  have hWb := hW
  obtain ⟨hW, hF2, hp_90⟩ := hw
  obtain ⟨hP1, hD1⟩ := hB
  rw [ht] at hP1
  have hP : va_P D vwCl ([(za, (b13_0 z0 z1 (nI z2) (nI z3) z4 z5 z6 z7 z8 z9 (nI z10) z11 z12 z13 z14 z15 (nI w16_57) z17 z18 z19))] ++ va_pl L M_89) H_87 := hP1
  have hD : va_D A ([(za, (b13_0 z0 z1 (nI z2) (nI z3) z4 z5 z6 z7 z8 z9 (nI z10) z11 z12 z13 z14 z15 (nI w16_57) z17 z18 z19))] ++ va_pl L M_89) := hD1.mono hFc
  have hM_91 : M_89 v38 = .inl (cy 15, 120, .inr (.inl (f_52))) := (hF2.at hc38 (by decide)).trans hM_69
  have hM_92 : M_89 v28 = .inl (cy 14, 120, .inl (f_36)) := (hF2.at hc28 (by decide)).trans hM_70
  have hM_93 : M_89 v12 = .inl (cy 14, 120, .inl (f_26)) := (hF2.at hc12 (by decide)).trans hM_71
  have hM_94 : M_89 k1 = .inr (12, fs1.set 17 (.int (nI (v2 + 1)))) := (hF2.at ik1 (by decide)).trans hM_72
  have hM_95 : M_89 v13 = .inl (cy 14, 20, .inl (f14)) := (hF2.at hc13 (by decide)).trans hM_73
  have hM_96 : M_89 v39 = .inl (cy 14, 20, .inl (f40)) := (hF2.at hc39 (by decide)).trans hM_74
  have hM_97 : M_89 v77 = .inl (cy 14, 16, .inl (f78)) := (hF2.at hc77 (by decide)).trans hM78
  have hF : fr K L [12, 14, 15, 32, 45, 46, 83, 89, 92, 93, 94, 95, 96, 97, 98, 99] M M_89 := hF.tr hF2 (by decide)
  have hG : fG K L [17] M M_89 := hG.frR hF2 (by decide)
  have hV : VW K L M M_89 k1 (va_up (fx M k1) 17 (((v2 + 1) : Nat) : Int)) (va_up (va_up (ax M k1) 44 (upd (ax M k1 44) ((nI v2) : Int32).toNatClampNeg (nI c_17))) 45 (upd (ax M k1 45) ((nI v2) : Int32).toNatClampNeg 0)) := hV.cal hWb hW hF2 ((fG.rf (js := [])).frR hF2 (by decide)) (by decide) (by decide) ik1
  rw [hQ]
  exact W.vret hx hb hr (fun t ht hW9 => ⟨⟨M_89, rfl, ⟨hW, hF, hG, ⟨_, _, _, hx17, hV⟩, trivial⟩, ⟨w16_57, (by omega), by rw [ht]; exact hP, hD⟩⟩, hS.F ht⟩) hS.2.2 dX13_mended_87
