theorem dX13_term_0 : decode cX13_term 0 = .ok (.aload_n 0, 1) := by decide +kernel
theorem dX13_term_1 : decode cX13_term 1 = .ok (.iconst 0, 1) := by decide +kernel
theorem dX13_term_2 : decode cX13_term 2 = .ok (.putfield 55, 3) := by decide +kernel
theorem dX13_term_5 : decode cX13_term 5 = .ok (.aload_n 0, 1) := by decide +kernel
theorem dX13_term_6 : decode cX13_term 6 = .ok (.iload_n 1, 1) := by decide +kernel
theorem dX13_term_7 : decode cX13_term 7 = .ok (.invokevirtual 64, 3) := by decide +kernel
theorem dX13_term_10 : decode cX13_term 10 = .ok (.ifCond .eq 30, 3) := by decide +kernel
theorem dX13_term_13 : decode cX13_term 13 = .ok (.aload_n 0, 1) := by decide +kernel
theorem dX13_term_14 : decode cX13_term 14 = .ok (.getfield 12, 3) := by decide +kernel
theorem dX13_term_17 : decode cX13_term 17 = .ok (.iload_n 1, 1) := by decide +kernel
theorem dX13_term_18 : decode cX13_term 18 = .ok (.aaload, 1) := by decide +kernel
theorem dX13_term_19 : decode cX13_term 19 = .ok (.getfield 142, 3) := by decide +kernel
theorem dX13_term_22 : decode cX13_term 22 = .ok (.ifCond .eq 18, 3) := by decide +kernel
theorem dX13_term_25 : decode cX13_term 25 = .ok (.iload_n 3, 1) := by decide +kernel
theorem dX13_term_26 : decode cX13_term 26 = .ok (.iconst 4, 1) := by decide +kernel
theorem dX13_term_27 : decode cX13_term 27 = .ok (.if_icmp .eq 19, 3) := by decide +kernel
theorem dX13_term_30 : decode cX13_term 30 = .ok (.iload_n 2, 1) := by decide +kernel
theorem dX13_term_31 : decode cX13_term 31 = .ok (.ifCond .lt 9, 3) := by decide +kernel
theorem dX13_term_34 : decode cX13_term 34 = .ok (.iload_n 2, 1) := by decide +kernel
theorem dX13_term_35 : decode cX13_term 35 = .ok (.bipush 6, 2) := by decide +kernel
theorem dX13_term_37 : decode cX13_term 37 = .ok (.if_icmp .lt 9, 3) := by decide +kernel
theorem dX13_term_40 : decode cX13_term 40 = .ok (.aload_n 0, 1) := by decide +kernel
theorem dX13_term_41 : decode cX13_term 41 = .ok (.iconst 1, 1) := by decide +kernel
theorem dX13_term_42 : decode cX13_term 42 = .ok (.invokevirtual 73, 3) := by decide +kernel
theorem dX13_term_45 : decode cX13_term 45 = .ok (.ireturn, 1) := by decide +kernel
theorem dX13_term_46 : decode cX13_term 46 = .ok (.iload_n 3, 1) := by decide +kernel
theorem dX13_term_47 : decode cX13_term 47 = .ok (.ifCond .ne 8, 3) := by decide +kernel
theorem dX13_term_50 : decode cX13_term 50 = .ok (.ldc 102, 2) := by decide +kernel
theorem dX13_term_52 : decode cX13_term 52 = .ok (.goto 27, 3) := by decide +kernel
theorem dX13_term_55 : decode cX13_term 55 = .ok (.iload_n 3, 1) := by decide +kernel
theorem dX13_term_56 : decode cX13_term 56 = .ok (.iconst 1, 1) := by decide +kernel
theorem dX13_term_57 : decode cX13_term 57 = .ok (.if_icmp .ne 8, 3) := by decide +kernel
theorem dX13_term_60 : decode cX13_term 60 = .ok (.ldc 71, 2) := by decide +kernel
theorem dX13_term_62 : decode cX13_term 62 = .ok (.goto 17, 3) := by decide +kernel
theorem dX13_term_65 : decode cX13_term 65 = .ok (.iload_n 3, 1) := by decide +kernel
theorem dX13_term_66 : decode cX13_term 66 = .ok (.iconst 4, 1) := by decide +kernel
theorem dX13_term_67 : decode cX13_term 67 = .ok (.if_icmp .ne 9, 3) := by decide +kernel
theorem dX13_term_70 : decode cX13_term 70 = .ok (.sipush 500, 3) := by decide +kernel
theorem dX13_term_73 : decode cX13_term 73 = .ok (.goto 6, 3) := by decide +kernel
theorem dX13_term_76 : decode cX13_term 76 = .ok (.sipush 1000, 3) := by decide +kernel
theorem dX13_term_79 : decode cX13_term 79 = .ok (.istore 5, 2) := by decide +kernel
theorem dX13_term_81 : decode cX13_term 81 = .ok (.iload_n 3, 1) := by decide +kernel
theorem dX13_term_82 : decode cX13_term 82 = .ok (.ifCond .lt 20, 3) := by decide +kernel
theorem dX13_term_85 : decode cX13_term 85 = .ok (.iload_n 3, 1) := by decide +kernel
theorem dX13_term_86 : decode cX13_term 86 = .ok (.iconst 4, 1) := by decide +kernel
theorem dX13_term_87 : decode cX13_term 87 = .ok (.if_icmp .gt 15, 3) := by decide +kernel
theorem dX13_term_90 : decode cX13_term 90 = .ok (.iload 4, 2) := by decide +kernel
theorem dX13_term_92 : decode cX13_term 92 = .ok (.ifCond .lt 10, 3) := by decide +kernel
theorem dX13_term_95 : decode cX13_term 95 = .ok (.iload 4, 2) := by decide +kernel
theorem dX13_term_97 : decode cX13_term 97 = .ok (.iload 5, 2) := by decide +kernel
theorem dX13_term_99 : decode cX13_term 99 = .ok (.if_icmp .le 9, 3) := by decide +kernel
theorem dX13_term_102 : decode cX13_term 102 = .ok (.aload_n 0, 1) := by decide +kernel
theorem dX13_term_103 : decode cX13_term 103 = .ok (.iconst 2, 1) := by decide +kernel
theorem dX13_term_104 : decode cX13_term 104 = .ok (.invokevirtual 73, 3) := by decide +kernel
theorem dX13_term_107 : decode cX13_term 107 = .ok (.ireturn, 1) := by decide +kernel
theorem dX13_term_108 : decode cX13_term 108 = .ok (.aload_n 0, 1) := by decide +kernel
theorem dX13_term_109 : decode cX13_term 109 = .ok (.getfield 12, 3) := by decide +kernel
theorem dX13_term_112 : decode cX13_term 112 = .ok (.iload_n 1, 1) := by decide +kernel
theorem dX13_term_113 : decode cX13_term 113 = .ok (.aaload, 1) := by decide +kernel
theorem dX13_term_114 : decode cX13_term 114 = .ok (.astore 6, 2) := by decide +kernel
theorem dX13_term_116 : decode cX13_term 116 = .ok (.aload 6, 2) := by decide +kernel
theorem dX13_term_118 : decode cX13_term 118 = .ok (.getfield 142, 3) := by decide +kernel
theorem dX13_term_121 : decode cX13_term 121 = .ok (.iconst 1, 1) := by decide +kernel
theorem dX13_term_122 : decode cX13_term 122 = .ok (.isub, 1) := by decide +kernel
theorem dX13_term_123 : decode cX13_term 123 = .ok (.istore 7, 2) := by decide +kernel
theorem dX13_term_125 : decode cX13_term 125 = .ok (.aload 6, 2) := by decide +kernel
theorem dX13_term_127 : decode cX13_term 127 = .ok (.aload 6, 2) := by decide +kernel
theorem dX13_term_129 : decode cX13_term 129 = .ok (.getfield 145, 3) := by decide +kernel
theorem dX13_term_132 : decode cX13_term 132 = .ok (.iload 7, 2) := by decide +kernel
theorem dX13_term_134 : decode cX13_term 134 = .ok (.iaload, 1) := by decide +kernel
theorem dX13_term_135 : decode cX13_term 135 = .ok (.invokevirtual 131, 3) := by decide +kernel
theorem dX13_term_138 : decode cX13_term 138 = .ok (.ifCond .ne 9, 3) := by decide +kernel
theorem dX13_term_141 : decode cX13_term 141 = .ok (.aload_n 0, 1) := by decide +kernel
theorem dX13_term_142 : decode cX13_term 142 = .ok (.iconst 3, 1) := by decide +kernel
theorem dX13_term_143 : decode cX13_term 143 = .ok (.invokevirtual 73, 3) := by decide +kernel
theorem dX13_term_146 : decode cX13_term 146 = .ok (.ireturn, 1) := by decide +kernel
theorem dX13_term_147 : decode cX13_term 147 = .ok (.iload_n 3, 1) := by decide +kernel
theorem dX13_term_148 : decode cX13_term 148 = .ok (.iconst 4, 1) := by decide +kernel
theorem dX13_term_149 : decode cX13_term 149 = .ok (.if_icmp .ne 26, 3) := by decide +kernel
theorem dX13_term_152 : decode cX13_term 152 = .ok (.aload 6, 2) := by decide +kernel
theorem dX13_term_154 : decode cX13_term 154 = .ok (.getfield 151, 3) := by decide +kernel
theorem dX13_term_157 : decode cX13_term 157 = .ok (.iload 7, 2) := by decide +kernel
theorem dX13_term_159 : decode cX13_term 159 = .ok (.iaload, 1) := by decide +kernel
theorem dX13_term_160 : decode cX13_term 160 = .ok (.istore 8, 2) := by decide +kernel
theorem dX13_term_162 : decode cX13_term 162 = .ok (.aload 6, 2) := by decide +kernel
theorem dX13_term_164 : decode cX13_term 164 = .ok (.getfield 151, 3) := by decide +kernel
theorem dX13_term_167 : decode cX13_term 167 = .ok (.iload 7, 2) := by decide +kernel
theorem dX13_term_169 : decode cX13_term 169 = .ok (.iload 4, 2) := by decide +kernel
theorem dX13_term_171 : decode cX13_term 171 = .ok (.iastore, 1) := by decide +kernel
theorem dX13_term_172 : decode cX13_term 172 = .ok (.goto 33, 3) := by decide +kernel
theorem dX13_term_175 : decode cX13_term 175 = .ok (.aload 6, 2) := by decide +kernel
theorem dX13_term_177 : decode cX13_term 177 = .ok (.iload 7, 2) := by decide +kernel
theorem dX13_term_179 : decode cX13_term 179 = .ok (.iload_n 3, 1) := by decide +kernel
theorem dX13_term_180 : decode cX13_term 180 = .ok (.iload_n 2, 1) := by decide +kernel
theorem dX13_term_181 : decode cX13_term 181 = .ok (.invokevirtual 154, 3) := by decide +kernel
theorem dX13_term_184 : decode cX13_term 184 = .ok (.istore 8, 2) := by decide +kernel
theorem dX13_term_186 : decode cX13_term 186 = .ok (.aload 6, 2) := by decide +kernel
theorem dX13_term_188 : decode cX13_term 188 = .ok (.getfield 148, 3) := by decide +kernel
theorem dX13_term_191 : decode cX13_term 191 = .ok (.iconst 4, 1) := by decide +kernel
theorem dX13_term_192 : decode cX13_term 192 = .ok (.iload 7, 2) := by decide +kernel
theorem dX13_term_194 : decode cX13_term 194 = .ok (.imul, 1) := by decide +kernel
theorem dX13_term_195 : decode cX13_term 195 = .ok (.iload_n 3, 1) := by decide +kernel
theorem dX13_term_196 : decode cX13_term 196 = .ok (.iadd, 1) := by decide +kernel
theorem dX13_term_197 : decode cX13_term 197 = .ok (.bipush 6, 2) := by decide +kernel
theorem dX13_term_199 : decode cX13_term 199 = .ok (.imul, 1) := by decide +kernel
theorem dX13_term_200 : decode cX13_term 200 = .ok (.iload_n 2, 1) := by decide +kernel
theorem dX13_term_201 : decode cX13_term 201 = .ok (.iadd, 1) := by decide +kernel
theorem dX13_term_202 : decode cX13_term 202 = .ok (.iload 4, 2) := by decide +kernel
theorem dX13_term_204 : decode cX13_term 204 = .ok (.iastore, 1) := by decide +kernel
theorem dX13_term_205 : decode cX13_term 205 = .ok (.aload_n 0, 1) := by decide +kernel
theorem dX13_term_206 : decode cX13_term 206 = .ok (.iload 8, 2) := by decide +kernel
theorem dX13_term_208 : decode cX13_term 208 = .ok (.invokevirtual 86, 3) := by decide +kernel
theorem dX13_term_211 : decode cX13_term 211 = .ok (.ireturn, 1) := by decide +kernel
theorem dX13_cut_0 : decode cX13_cut 0 = .ok (.lconst 0, 1) := by decide +kernel
theorem dX13_cut_1 : decode cX13_cut 1 = .ok (.lstore 6, 2) := by decide +kernel
theorem dX13_cut_3 : decode cX13_cut 3 = .ok (.iconst 0, 1) := by decide +kernel
theorem dX13_cut_4 : decode cX13_cut 4 = .ok (.istore 8, 2) := by decide +kernel
theorem dX13_cut_6 : decode cX13_cut 6 = .ok (.iload 8, 2) := by decide +kernel
theorem dX13_cut_8 : decode cX13_cut 8 = .ok (.aload_n 0, 1) := by decide +kernel
theorem dX13_cut_9 : decode cX13_cut 9 = .ok (.getfield 213, 3) := by decide +kernel
theorem dX13_cut_12 : decode cX13_cut 12 = .ok (.if_icmp .ge 30, 3) := by decide +kernel
theorem dX13_cut_15 : decode cX13_cut 15 = .ok (.aload_n 3, 1) := by decide +kernel
theorem dX13_cut_16 : decode cX13_cut 16 = .ok (.iload 8, 2) := by decide +kernel
theorem dX13_cut_18 : decode cX13_cut 18 = .ok (.lconst 0, 1) := by decide +kernel
theorem dX13_cut_19 : decode cX13_cut 19 = .ok (.lastore, 1) := by decide +kernel
theorem dX13_cut_20 : decode cX13_cut 20 = .ok (.lload 6, 2) := by decide +kernel
theorem dX13_cut_22 : decode cX13_cut 22 = .ok (.aload_n 0, 1) := by decide +kernel
theorem dX13_cut_23 : decode cX13_cut 23 = .ok (.iload 8, 2) := by decide +kernel
theorem dX13_cut_25 : decode cX13_cut 25 = .ok (.iload 4, 2) := by decide +kernel
theorem dX13_cut_27 : decode cX13_cut 27 = .ok (.aload 5, 2) := by decide +kernel
theorem dX13_cut_29 : decode cX13_cut 29 = .ok (.invokevirtual 216, 3) := by decide +kernel
theorem dX13_cut_32 : decode cX13_cut 32 = .ok (.i2l, 1) := by decide +kernel
theorem dX13_cut_33 : decode cX13_cut 33 = .ok (.ladd, 1) := by decide +kernel
theorem dX13_cut_34 : decode cX13_cut 34 = .ok (.lstore 6, 2) := by decide +kernel
theorem dX13_cut_36 : decode cX13_cut 36 = .ok (.iinc 8 1, 3) := by decide +kernel
theorem dX13_cut_39 : decode cX13_cut 39 = .ok (.goto (-33), 3) := by decide +kernel
theorem dX13_cut_42 : decode cX13_cut 42 = .ok (.lload 6, 2) := by decide +kernel
theorem dX13_cut_44 : decode cX13_cut 44 = .ok (.lconst 0, 1) := by decide +kernel
theorem dX13_cut_45 : decode cX13_cut 45 = .ok (.lcmp, 1) := by decide +kernel
theorem dX13_cut_46 : decode cX13_cut 46 = .ok (.ifCond .ne 5, 3) := by decide +kernel
theorem dX13_cut_49 : decode cX13_cut 49 = .ok (.iconst 0, 1) := by decide +kernel
theorem dX13_cut_50 : decode cX13_cut 50 = .ok (.ireturn, 1) := by decide +kernel
theorem dX13_cut_51 : decode cX13_cut 51 = .ok (.lload_n 1, 1) := by decide +kernel
theorem dX13_cut_52 : decode cX13_cut 52 = .ok (.lstore 8, 2) := by decide +kernel
theorem dX13_cut_54 : decode cX13_cut 54 = .ok (.iconst 0, 1) := by decide +kernel
theorem dX13_cut_55 : decode cX13_cut 55 = .ok (.istore 10, 2) := by decide +kernel
theorem dX13_cut_57 : decode cX13_cut 57 = .ok (.iload 10, 2) := by decide +kernel
theorem dX13_cut_59 : decode cX13_cut 59 = .ok (.aload_n 0, 1) := by decide +kernel
theorem dX13_cut_60 : decode cX13_cut 60 = .ok (.getfield 213, 3) := by decide +kernel
theorem dX13_cut_63 : decode cX13_cut 63 = .ok (.if_icmp .ge 54, 3) := by decide +kernel
theorem dX13_cut_66 : decode cX13_cut 66 = .ok (.lload_n 1, 1) := by decide +kernel
theorem dX13_cut_67 : decode cX13_cut 67 = .ok (.aload_n 0, 1) := by decide +kernel
theorem dX13_cut_68 : decode cX13_cut 68 = .ok (.iload 10, 2) := by decide +kernel
theorem dX13_cut_70 : decode cX13_cut 70 = .ok (.iload 4, 2) := by decide +kernel
theorem dX13_cut_72 : decode cX13_cut 72 = .ok (.aload 5, 2) := by decide +kernel
theorem dX13_cut_74 : decode cX13_cut 74 = .ok (.invokevirtual 216, 3) := by decide +kernel
theorem dX13_cut_77 : decode cX13_cut 77 = .ok (.i2l, 1) := by decide +kernel
theorem dX13_cut_78 : decode cX13_cut 78 = .ok (.lmul, 1) := by decide +kernel
theorem dX13_cut_79 : decode cX13_cut 79 = .ok (.lstore 11, 2) := by decide +kernel
theorem dX13_cut_81 : decode cX13_cut 81 = .ok (.aload_n 3, 1) := by decide +kernel
theorem dX13_cut_82 : decode cX13_cut 82 = .ok (.iload 10, 2) := by decide +kernel
theorem dX13_cut_84 : decode cX13_cut 84 = .ok (.lload 11, 2) := by decide +kernel
theorem dX13_cut_86 : decode cX13_cut 86 = .ok (.lload 6, 2) := by decide +kernel
theorem dX13_cut_88 : decode cX13_cut 88 = .ok (.ldiv, 1) := by decide +kernel
theorem dX13_cut_89 : decode cX13_cut 89 = .ok (.lastore, 1) := by decide +kernel
theorem dX13_cut_90 : decode cX13_cut 90 = .ok (.aload_n 0, 1) := by decide +kernel
theorem dX13_cut_91 : decode cX13_cut 91 = .ok (.getfield 43, 3) := by decide +kernel
theorem dX13_cut_94 : decode cX13_cut 94 = .ok (.iload 10, 2) := by decide +kernel
theorem dX13_cut_96 : decode cX13_cut 96 = .ok (.lload 11, 2) := by decide +kernel
theorem dX13_cut_98 : decode cX13_cut 98 = .ok (.lload 6, 2) := by decide +kernel
theorem dX13_cut_100 : decode cX13_cut 100 = .ok (.lrem, 1) := by decide +kernel
theorem dX13_cut_101 : decode cX13_cut 101 = .ok (.lastore, 1) := by decide +kernel
theorem dX13_cut_102 : decode cX13_cut 102 = .ok (.lload 8, 2) := by decide +kernel
theorem dX13_cut_104 : decode cX13_cut 104 = .ok (.aload_n 3, 1) := by decide +kernel
theorem dX13_cut_105 : decode cX13_cut 105 = .ok (.iload 10, 2) := by decide +kernel
theorem dX13_cut_107 : decode cX13_cut 107 = .ok (.laload, 1) := by decide +kernel
theorem dX13_cut_108 : decode cX13_cut 108 = .ok (.lsub, 1) := by decide +kernel
theorem dX13_cut_109 : decode cX13_cut 109 = .ok (.lstore 8, 2) := by decide +kernel
theorem dX13_cut_111 : decode cX13_cut 111 = .ok (.iinc 10 1, 3) := by decide +kernel
theorem dX13_cut_114 : decode cX13_cut 114 = .ok (.goto (-57), 3) := by decide +kernel
theorem dX13_cut_117 : decode cX13_cut 117 = .ok (.lload 8, 2) := by decide +kernel
theorem dX13_cut_119 : decode cX13_cut 119 = .ok (.lconst 0, 1) := by decide +kernel
theorem dX13_cut_120 : decode cX13_cut 120 = .ok (.lcmp, 1) := by decide +kernel
theorem dX13_cut_121 : decode cX13_cut 121 = .ok (.ifCond .le 73, 3) := by decide +kernel
theorem dX13_cut_124 : decode cX13_cut 124 = .ok (.iconst 0, 1) := by decide +kernel
theorem dX13_cut_125 : decode cX13_cut 125 = .ok (.istore 10, 2) := by decide +kernel
theorem dX13_cut_127 : decode cX13_cut 127 = .ok (.iconst 1, 1) := by decide +kernel
theorem dX13_cut_128 : decode cX13_cut 128 = .ok (.istore 11, 2) := by decide +kernel
theorem dX13_cut_130 : decode cX13_cut 130 = .ok (.iload 11, 2) := by decide +kernel
theorem dX13_cut_132 : decode cX13_cut 132 = .ok (.aload_n 0, 1) := by decide +kernel
theorem dX13_cut_133 : decode cX13_cut 133 = .ok (.getfield 213, 3) := by decide +kernel
theorem dX13_cut_136 : decode cX13_cut 136 = .ok (.if_icmp .ge 31, 3) := by decide +kernel
theorem dX13_cut_139 : decode cX13_cut 139 = .ok (.aload_n 0, 1) := by decide +kernel
theorem dX13_cut_140 : decode cX13_cut 140 = .ok (.getfield 43, 3) := by decide +kernel
theorem dX13_cut_143 : decode cX13_cut 143 = .ok (.iload 11, 2) := by decide +kernel
theorem dX13_cut_145 : decode cX13_cut 145 = .ok (.laload, 1) := by decide +kernel
theorem dX13_cut_146 : decode cX13_cut 146 = .ok (.aload_n 0, 1) := by decide +kernel
theorem dX13_cut_147 : decode cX13_cut 147 = .ok (.getfield 43, 3) := by decide +kernel
theorem dX13_cut_150 : decode cX13_cut 150 = .ok (.iload 10, 2) := by decide +kernel
theorem dX13_cut_152 : decode cX13_cut 152 = .ok (.laload, 1) := by decide +kernel
theorem dX13_cut_153 : decode cX13_cut 153 = .ok (.lcmp, 1) := by decide +kernel
theorem dX13_cut_154 : decode cX13_cut 154 = .ok (.ifCond .le 7, 3) := by decide +kernel
theorem dX13_cut_157 : decode cX13_cut 157 = .ok (.iload 11, 2) := by decide +kernel
theorem dX13_cut_159 : decode cX13_cut 159 = .ok (.istore 10, 2) := by decide +kernel
theorem dX13_cut_161 : decode cX13_cut 161 = .ok (.iinc 11 1, 3) := by decide +kernel
theorem dX13_cut_164 : decode cX13_cut 164 = .ok (.goto (-34), 3) := by decide +kernel
theorem dX13_cut_167 : decode cX13_cut 167 = .ok (.aload_n 3, 1) := by decide +kernel
theorem dX13_cut_168 : decode cX13_cut 168 = .ok (.iload 10, 2) := by decide +kernel
theorem dX13_cut_170 : decode cX13_cut 170 = .ok (.dup2, 1) := by decide +kernel
theorem dX13_cut_171 : decode cX13_cut 171 = .ok (.laload, 1) := by decide +kernel
theorem dX13_cut_172 : decode cX13_cut 172 = .ok (.lconst 1, 1) := by decide +kernel
theorem dX13_cut_173 : decode cX13_cut 173 = .ok (.ladd, 1) := by decide +kernel
theorem dX13_cut_174 : decode cX13_cut 174 = .ok (.lastore, 1) := by decide +kernel
theorem dX13_cut_175 : decode cX13_cut 175 = .ok (.aload_n 0, 1) := by decide +kernel
theorem dX13_cut_176 : decode cX13_cut 176 = .ok (.getfield 43, 3) := by decide +kernel
theorem dX13_cut_179 : decode cX13_cut 179 = .ok (.iload 10, 2) := by decide +kernel
theorem dX13_cut_181 : decode cX13_cut 181 = .ok (.ldc2_w 220, 3) := by decide +kernel
theorem dX13_cut_184 : decode cX13_cut 184 = .ok (.lastore, 1) := by decide +kernel
theorem dX13_cut_185 : decode cX13_cut 185 = .ok (.lload 8, 2) := by decide +kernel
theorem dX13_cut_187 : decode cX13_cut 187 = .ok (.lconst 1, 1) := by decide +kernel
theorem dX13_cut_188 : decode cX13_cut 188 = .ok (.lsub, 1) := by decide +kernel
theorem dX13_cut_189 : decode cX13_cut 189 = .ok (.lstore 8, 2) := by decide +kernel
theorem dX13_cut_191 : decode cX13_cut 191 = .ok (.goto (-74), 3) := by decide +kernel
theorem dX13_cut_194 : decode cX13_cut 194 = .ok (.iconst 1, 1) := by decide +kernel
theorem dX13_cut_195 : decode cX13_cut 195 = .ok (.ireturn, 1) := by decide +kernel
theorem dX13_bearing_0 : decode cX13_bearing 0 = .ok (.aload_n 0, 1) := by decide +kernel
theorem dX13_bearing_1 : decode cX13_bearing 1 = .ok (.lload_n 2, 1) := by decide +kernel
theorem dX13_bearing_2 : decode cX13_bearing 2 = .ok (.aload_n 0, 1) := by decide +kernel
theorem dX13_bearing_3 : decode cX13_bearing 3 = .ok (.getfield 39, 3) := by decide +kernel
theorem dX13_bearing_6 : decode cX13_bearing 6 = .ok (.iconst 0, 1) := by decide +kernel
theorem dX13_bearing_7 : decode cX13_bearing 7 = .ok (.aload_n 1, 1) := by decide +kernel
theorem dX13_bearing_8 : decode cX13_bearing 8 = .ok (.invokevirtual 226, 3) := by decide +kernel
theorem dX13_bearing_11 : decode cX13_bearing 11 = .ok (.istore 4, 2) := by decide +kernel
theorem dX13_bearing_13 : decode cX13_bearing 13 = .ok (.iload 4, 2) := by decide +kernel
theorem dX13_bearing_15 : decode cX13_bearing 15 = .ok (.ifCond .ne 5, 3) := by decide +kernel
theorem dX13_bearing_18 : decode cX13_bearing 18 = .ok (.lload_n 2, 1) := by decide +kernel
theorem dX13_bearing_19 : decode cX13_bearing 19 = .ok (.lreturn, 1) := by decide +kernel
theorem dX13_bearing_20 : decode cX13_bearing 20 = .ok (.lconst 0, 1) := by decide +kernel
theorem dX13_bearing_21 : decode cX13_bearing 21 = .ok (.lstore 5, 2) := by decide +kernel
theorem dX13_bearing_23 : decode cX13_bearing 23 = .ok (.iconst 0, 1) := by decide +kernel
theorem dX13_bearing_24 : decode cX13_bearing 24 = .ok (.istore 7, 2) := by decide +kernel
theorem dX13_bearing_26 : decode cX13_bearing 26 = .ok (.iload 7, 2) := by decide +kernel
theorem dX13_bearing_28 : decode cX13_bearing 28 = .ok (.aload_n 0, 1) := by decide +kernel
theorem dX13_bearing_29 : decode cX13_bearing 29 = .ok (.getfield 213, 3) := by decide +kernel
theorem dX13_bearing_32 : decode cX13_bearing 32 = .ok (.if_icmp .ge 100, 3) := by decide +kernel
theorem dX13_bearing_35 : decode cX13_bearing 35 = .ok (.aload_n 0, 1) := by decide +kernel
theorem dX13_bearing_36 : decode cX13_bearing 36 = .ok (.aload_n 1, 1) := by decide +kernel
theorem dX13_bearing_37 : decode cX13_bearing 37 = .ok (.aload_n 0, 1) := by decide +kernel
theorem dX13_bearing_38 : decode cX13_bearing 38 = .ok (.getfield 33, 3) := by decide +kernel
theorem dX13_bearing_41 : decode cX13_bearing 41 = .ok (.iload 7, 2) := by decide +kernel
theorem dX13_bearing_43 : decode cX13_bearing 43 = .ok (.iaload, 1) := by decide +kernel
theorem dX13_bearing_44 : decode cX13_bearing 44 = .ok (.invokevirtual 222, 3) := by decide +kernel
theorem dX13_bearing_47 : decode cX13_bearing 47 = .ok (.ifCond .ne 6, 3) := by decide +kernel
theorem dX13_bearing_50 : decode cX13_bearing 50 = .ok (.goto 76, 3) := by decide +kernel
theorem dX13_bearing_53 : decode cX13_bearing 53 = .ok (.aload_n 0, 1) := by decide +kernel
theorem dX13_bearing_54 : decode cX13_bearing 54 = .ok (.getfield 24, 3) := by decide +kernel
theorem dX13_bearing_57 : decode cX13_bearing 57 = .ok (.aload_n 1, 1) := by decide +kernel
theorem dX13_bearing_58 : decode cX13_bearing 58 = .ok (.getfield 72, 3) := by decide +kernel
theorem dX13_bearing_61 : decode cX13_bearing 61 = .ok (.aload_n 0, 1) := by decide +kernel
theorem dX13_bearing_62 : decode cX13_bearing 62 = .ok (.getfield 33, 3) := by decide +kernel
theorem dX13_bearing_65 : decode cX13_bearing 65 = .ok (.iload 7, 2) := by decide +kernel
theorem dX13_bearing_67 : decode cX13_bearing 67 = .ok (.iaload, 1) := by decide +kernel
theorem dX13_bearing_68 : decode cX13_bearing 68 = .ok (.iaload, 1) := by decide +kernel
theorem dX13_bearing_69 : decode cX13_bearing 69 = .ok (.iaload, 1) := by decide +kernel
theorem dX13_bearing_70 : decode cX13_bearing 70 = .ok (.i2l, 1) := by decide +kernel
theorem dX13_bearing_71 : decode cX13_bearing 71 = .ok (.aload_n 1, 1) := by decide +kernel
theorem dX13_bearing_72 : decode cX13_bearing 72 = .ok (.getfield 230, 3) := by decide +kernel
theorem dX13_bearing_75 : decode cX13_bearing 75 = .ok (.aload_n 0, 1) := by decide +kernel
theorem dX13_bearing_76 : decode cX13_bearing 76 = .ok (.getfield 33, 3) := by decide +kernel
theorem dX13_bearing_79 : decode cX13_bearing 79 = .ok (.iload 7, 2) := by decide +kernel
theorem dX13_bearing_81 : decode cX13_bearing 81 = .ok (.iaload, 1) := by decide +kernel
theorem dX13_bearing_82 : decode cX13_bearing 82 = .ok (.laload, 1) := by decide +kernel
theorem dX13_bearing_83 : decode cX13_bearing 83 = .ok (.lsub, 1) := by decide +kernel
theorem dX13_bearing_84 : decode cX13_bearing 84 = .ok (.lstore 8, 2) := by decide +kernel
theorem dX13_bearing_86 : decode cX13_bearing 86 = .ok (.aload_n 0, 1) := by decide +kernel
theorem dX13_bearing_87 : decode cX13_bearing 87 = .ok (.getfield 39, 3) := by decide +kernel
theorem dX13_bearing_90 : decode cX13_bearing 90 = .ok (.iload 7, 2) := by decide +kernel
theorem dX13_bearing_92 : decode cX13_bearing 92 = .ok (.laload, 1) := by decide +kernel
theorem dX13_bearing_93 : decode cX13_bearing 93 = .ok (.lload 8, 2) := by decide +kernel
theorem dX13_bearing_95 : decode cX13_bearing 95 = .ok (.lcmp, 1) := by decide +kernel
theorem dX13_bearing_96 : decode cX13_bearing 96 = .ok (.ifCond .gt 6, 3) := by decide +kernel
theorem dX13_bearing_99 : decode cX13_bearing 99 = .ok (.goto 27, 3) := by decide +kernel
theorem dX13_bearing_102 : decode cX13_bearing 102 = .ok (.lload 5, 2) := by decide +kernel
theorem dX13_bearing_104 : decode cX13_bearing 104 = .ok (.aload_n 0, 1) := by decide +kernel
theorem dX13_bearing_105 : decode cX13_bearing 105 = .ok (.getfield 39, 3) := by decide +kernel
theorem dX13_bearing_108 : decode cX13_bearing 108 = .ok (.iload 7, 2) := by decide +kernel
theorem dX13_bearing_110 : decode cX13_bearing 110 = .ok (.laload, 1) := by decide +kernel
theorem dX13_bearing_111 : decode cX13_bearing 111 = .ok (.lload 8, 2) := by decide +kernel
theorem dX13_bearing_113 : decode cX13_bearing 113 = .ok (.lsub, 1) := by decide +kernel
theorem dX13_bearing_114 : decode cX13_bearing 114 = .ok (.ladd, 1) := by decide +kernel
theorem dX13_bearing_115 : decode cX13_bearing 115 = .ok (.lstore 5, 2) := by decide +kernel
theorem dX13_bearing_117 : decode cX13_bearing 117 = .ok (.aload_n 0, 1) := by decide +kernel
theorem dX13_bearing_118 : decode cX13_bearing 118 = .ok (.getfield 39, 3) := by decide +kernel
theorem dX13_bearing_121 : decode cX13_bearing 121 = .ok (.iload 7, 2) := by decide +kernel
theorem dX13_bearing_123 : decode cX13_bearing 123 = .ok (.lload 8, 2) := by decide +kernel
theorem dX13_bearing_125 : decode cX13_bearing 125 = .ok (.lastore, 1) := by decide +kernel
theorem dX13_bearing_126 : decode cX13_bearing 126 = .ok (.iinc 7 1, 3) := by decide +kernel
theorem dX13_bearing_129 : decode cX13_bearing 129 = .ok (.goto (-103), 3) := by decide +kernel
theorem dX13_bearing_132 : decode cX13_bearing 132 = .ok (.lload 5, 2) := by decide +kernel
theorem dX13_bearing_134 : decode cX13_bearing 134 = .ok (.lconst 0, 1) := by decide +kernel
theorem dX13_bearing_135 : decode cX13_bearing 135 = .ok (.lcmp, 1) := by decide +kernel
theorem dX13_bearing_136 : decode cX13_bearing 136 = .ok (.ifCond .eq 18, 3) := by decide +kernel
theorem dX13_bearing_139 : decode cX13_bearing 139 = .ok (.aload_n 0, 1) := by decide +kernel
theorem dX13_bearing_140 : decode cX13_bearing 140 = .ok (.lload 5, 2) := by decide +kernel
theorem dX13_bearing_142 : decode cX13_bearing 142 = .ok (.aload_n 0, 1) := by decide +kernel
theorem dX13_bearing_143 : decode cX13_bearing 143 = .ok (.getfield 46, 3) := by decide +kernel
theorem dX13_bearing_146 : decode cX13_bearing 146 = .ok (.iconst 1, 1) := by decide +kernel
theorem dX13_bearing_147 : decode cX13_bearing 147 = .ok (.aload_n 1, 1) := by decide +kernel
theorem dX13_bearing_148 : decode cX13_bearing 148 = .ok (.invokevirtual 226, 3) := by decide +kernel
theorem dX13_bearing_151 : decode cX13_bearing 151 = .ok (.ifCond .ne 6, 3) := by decide +kernel
theorem dX13_bearing_154 : decode cX13_bearing 154 = .ok (.lload 5, 2) := by decide +kernel
theorem dX13_bearing_156 : decode cX13_bearing 156 = .ok (.lreturn, 1) := by decide +kernel
theorem dX13_bearing_157 : decode cX13_bearing 157 = .ok (.iconst 0, 1) := by decide +kernel
theorem dX13_bearing_158 : decode cX13_bearing 158 = .ok (.istore 7, 2) := by decide +kernel
theorem dX13_bearing_160 : decode cX13_bearing 160 = .ok (.iload 7, 2) := by decide +kernel
theorem dX13_bearing_162 : decode cX13_bearing 162 = .ok (.aload_n 0, 1) := by decide +kernel
theorem dX13_bearing_163 : decode cX13_bearing 163 = .ok (.getfield 213, 3) := by decide +kernel
theorem dX13_bearing_166 : decode cX13_bearing 166 = .ok (.if_icmp .ge 26, 3) := by decide +kernel
theorem dX13_bearing_169 : decode cX13_bearing 169 = .ok (.aload_n 0, 1) := by decide +kernel
theorem dX13_bearing_170 : decode cX13_bearing 170 = .ok (.getfield 39, 3) := by decide +kernel
theorem dX13_bearing_173 : decode cX13_bearing 173 = .ok (.iload 7, 2) := by decide +kernel
theorem dX13_bearing_175 : decode cX13_bearing 175 = .ok (.dup2, 1) := by decide +kernel
theorem dX13_bearing_176 : decode cX13_bearing 176 = .ok (.laload, 1) := by decide +kernel
theorem dX13_bearing_177 : decode cX13_bearing 177 = .ok (.aload_n 0, 1) := by decide +kernel
theorem dX13_bearing_178 : decode cX13_bearing 178 = .ok (.getfield 46, 3) := by decide +kernel
theorem dX13_bearing_181 : decode cX13_bearing 181 = .ok (.iload 7, 2) := by decide +kernel
theorem dX13_bearing_183 : decode cX13_bearing 183 = .ok (.laload, 1) := by decide +kernel
theorem dX13_bearing_184 : decode cX13_bearing 184 = .ok (.ladd, 1) := by decide +kernel
theorem dX13_bearing_185 : decode cX13_bearing 185 = .ok (.lastore, 1) := by decide +kernel
theorem dX13_bearing_186 : decode cX13_bearing 186 = .ok (.iinc 7 1, 3) := by decide +kernel
theorem dX13_bearing_189 : decode cX13_bearing 189 = .ok (.goto (-29), 3) := by decide +kernel
theorem dX13_bearing_192 : decode cX13_bearing 192 = .ok (.lconst 0, 1) := by decide +kernel
theorem dX13_bearing_193 : decode cX13_bearing 193 = .ok (.lreturn, 1) := by decide +kernel
theorem dX13_shares_0 : decode cX13_shares 0 = .ok (.lload 4, 2) := by decide +kernel
theorem dX13_shares_2 : decode cX13_shares 2 = .ok (.lconst 0, 1) := by decide +kernel
theorem dX13_shares_3 : decode cX13_shares 3 = .ok (.lcmp, 1) := by decide +kernel
theorem dX13_shares_4 : decode cX13_shares 4 = .ok (.ifCond .le 75, 3) := by decide +kernel
theorem dX13_shares_7 : decode cX13_shares 7 = .ok (.aload_n 0, 1) := by decide +kernel
theorem dX13_shares_8 : decode cX13_shares 8 = .ok (.aload_n 1, 1) := by decide +kernel
theorem dX13_shares_9 : decode cX13_shares 9 = .ok (.iload_n 3, 1) := by decide +kernel
theorem dX13_shares_10 : decode cX13_shares 10 = .ok (.iconst 2, 1) := by decide +kernel
theorem dX13_shares_11 : decode cX13_shares 11 = .ok (.invokevirtual 351, 3) := by decide +kernel
theorem dX13_shares_14 : decode cX13_shares 14 = .ok (.aload_n 0, 1) := by decide +kernel
theorem dX13_shares_15 : decode cX13_shares 15 = .ok (.lload 4, 2) := by decide +kernel
theorem dX13_shares_17 : decode cX13_shares 17 = .ok (.aload_n 0, 1) := by decide +kernel
theorem dX13_shares_18 : decode cX13_shares 18 = .ok (.getfield 39, 3) := by decide +kernel
theorem dX13_shares_21 : decode cX13_shares 21 = .ok (.iconst 0, 1) := by decide +kernel
theorem dX13_shares_22 : decode cX13_shares 22 = .ok (.aload_n 1, 1) := by decide +kernel
theorem dX13_shares_23 : decode cX13_shares 23 = .ok (.invokevirtual 226, 3) := by decide +kernel
theorem dX13_shares_26 : decode cX13_shares 26 = .ok (.ifCond .ne 12, 3) := by decide +kernel
theorem dX13_shares_29 : decode cX13_shares 29 = .ok (.aload_n 1, 1) := by decide +kernel
theorem dX13_shares_30 : decode cX13_shares 30 = .ok (.getfield 304, 3) := by decide +kernel
theorem dX13_shares_33 : decode cX13_shares 33 = .ok (.iload_n 2, 1) := by decide +kernel
theorem dX13_shares_34 : decode cX13_shares 34 = .ok (.lload 4, 2) := by decide +kernel
theorem dX13_shares_36 : decode cX13_shares 36 = .ok (.lastore, 1) := by decide +kernel
theorem dX13_shares_37 : decode cX13_shares 37 = .ok (.return_, 1) := by decide +kernel
theorem dX13_shares_38 : decode cX13_shares 38 = .ok (.iconst 0, 1) := by decide +kernel
theorem dX13_shares_39 : decode cX13_shares 39 = .ok (.istore 6, 2) := by decide +kernel
theorem dX13_shares_41 : decode cX13_shares 41 = .ok (.iload 6, 2) := by decide +kernel
theorem dX13_shares_43 : decode cX13_shares 43 = .ok (.aload_n 0, 1) := by decide +kernel
theorem dX13_shares_44 : decode cX13_shares 44 = .ok (.getfield 213, 3) := by decide +kernel
theorem dX13_shares_47 : decode cX13_shares 47 = .ok (.if_icmp .ge 29, 3) := by decide +kernel
theorem dX13_shares_50 : decode cX13_shares 50 = .ok (.aload_n 0, 1) := by decide +kernel
theorem dX13_shares_51 : decode cX13_shares 51 = .ok (.aload_n 1, 1) := by decide +kernel
theorem dX13_shares_52 : decode cX13_shares 52 = .ok (.iload_n 2, 1) := by decide +kernel
theorem dX13_shares_53 : decode cX13_shares 53 = .ok (.aload_n 0, 1) := by decide +kernel
theorem dX13_shares_54 : decode cX13_shares 54 = .ok (.getfield 33, 3) := by decide +kernel
theorem dX13_shares_57 : decode cX13_shares 57 = .ok (.iload 6, 2) := by decide +kernel
theorem dX13_shares_59 : decode cX13_shares 59 = .ok (.iaload, 1) := by decide +kernel
theorem dX13_shares_60 : decode cX13_shares 60 = .ok (.aload_n 0, 1) := by decide +kernel
theorem dX13_shares_61 : decode cX13_shares 61 = .ok (.getfield 39, 3) := by decide +kernel
theorem dX13_shares_64 : decode cX13_shares 64 = .ok (.iload 6, 2) := by decide +kernel
theorem dX13_shares_66 : decode cX13_shares 66 = .ok (.laload, 1) := by decide +kernel
theorem dX13_shares_67 : decode cX13_shares 67 = .ok (.invokevirtual 341, 3) := by decide +kernel
theorem dX13_shares_70 : decode cX13_shares 70 = .ok (.iinc 6 1, 3) := by decide +kernel
theorem dX13_shares_73 : decode cX13_shares 73 = .ok (.goto (-32), 3) := by decide +kernel
theorem dX13_shares_76 : decode cX13_shares 76 = .ok (.goto 119, 3) := by decide +kernel
theorem dX13_shares_79 : decode cX13_shares 79 = .ok (.lload 4, 2) := by decide +kernel
theorem dX13_shares_81 : decode cX13_shares 81 = .ok (.lconst 0, 1) := by decide +kernel
theorem dX13_shares_82 : decode cX13_shares 82 = .ok (.lcmp, 1) := by decide +kernel
theorem dX13_shares_83 : decode cX13_shares 83 = .ok (.ifCond .ge 112, 3) := by decide +kernel
theorem dX13_shares_86 : decode cX13_shares 86 = .ok (.aload_n 0, 1) := by decide +kernel
theorem dX13_shares_87 : decode cX13_shares 87 = .ok (.aload_n 1, 1) := by decide +kernel
theorem dX13_shares_88 : decode cX13_shares 88 = .ok (.iload_n 3, 1) := by decide +kernel
theorem dX13_shares_89 : decode cX13_shares 89 = .ok (.iconst 3, 1) := by decide +kernel
theorem dX13_shares_90 : decode cX13_shares 90 = .ok (.invokevirtual 351, 3) := by decide +kernel
theorem dX13_shares_93 : decode cX13_shares 93 = .ok (.iconst 0, 1) := by decide +kernel
theorem dX13_shares_94 : decode cX13_shares 94 = .ok (.istore 6, 2) := by decide +kernel
theorem dX13_shares_96 : decode cX13_shares 96 = .ok (.iload 6, 2) := by decide +kernel
theorem dX13_shares_98 : decode cX13_shares 98 = .ok (.aload_n 0, 1) := by decide +kernel
theorem dX13_shares_99 : decode cX13_shares 99 = .ok (.getfield 213, 3) := by decide +kernel
theorem dX13_shares_102 : decode cX13_shares 102 = .ok (.if_icmp .ge 17, 3) := by decide +kernel
theorem dX13_shares_105 : decode cX13_shares 105 = .ok (.aload_n 0, 1) := by decide +kernel
theorem dX13_shares_106 : decode cX13_shares 106 = .ok (.getfield 39, 3) := by decide +kernel
theorem dX13_shares_109 : decode cX13_shares 109 = .ok (.iload 6, 2) := by decide +kernel
theorem dX13_shares_111 : decode cX13_shares 111 = .ok (.lconst 0, 1) := by decide +kernel
theorem dX13_shares_112 : decode cX13_shares 112 = .ok (.lastore, 1) := by decide +kernel
theorem dX13_shares_113 : decode cX13_shares 113 = .ok (.iinc 6 1, 3) := by decide +kernel
theorem dX13_shares_116 : decode cX13_shares 116 = .ok (.goto (-20), 3) := by decide +kernel
theorem dX13_shares_119 : decode cX13_shares 119 = .ok (.aload_n 1, 1) := by decide +kernel
theorem dX13_shares_120 : decode cX13_shares 120 = .ok (.getfield 304, 3) := by decide +kernel
theorem dX13_shares_123 : decode cX13_shares 123 = .ok (.iload_n 2, 1) := by decide +kernel
theorem dX13_shares_124 : decode cX13_shares 124 = .ok (.aload_n 0, 1) := by decide +kernel
theorem dX13_shares_125 : decode cX13_shares 125 = .ok (.aload_n 1, 1) := by decide +kernel
theorem dX13_shares_126 : decode cX13_shares 126 = .ok (.lload 4, 2) := by decide +kernel
theorem dX13_shares_128 : decode cX13_shares 128 = .ok (.lneg, 1) := by decide +kernel
theorem dX13_shares_129 : decode cX13_shares 129 = .ok (.invokevirtual 354, 3) := by decide +kernel
theorem dX13_shares_132 : decode cX13_shares 132 = .ok (.lneg, 1) := by decide +kernel
theorem dX13_shares_133 : decode cX13_shares 133 = .ok (.lastore, 1) := by decide +kernel
theorem dX13_shares_134 : decode cX13_shares 134 = .ok (.iconst 0, 1) := by decide +kernel
theorem dX13_shares_135 : decode cX13_shares 135 = .ok (.istore 6, 2) := by decide +kernel
theorem dX13_shares_137 : decode cX13_shares 137 = .ok (.iload 6, 2) := by decide +kernel
theorem dX13_shares_139 : decode cX13_shares 139 = .ok (.aload_n 0, 1) := by decide +kernel
theorem dX13_shares_140 : decode cX13_shares 140 = .ok (.getfield 213, 3) := by decide +kernel
theorem dX13_shares_143 : decode cX13_shares 143 = .ok (.if_icmp .ge 52, 3) := by decide +kernel
theorem dX13_shares_146 : decode cX13_shares 146 = .ok (.aload_n 1, 1) := by decide +kernel
theorem dX13_shares_147 : decode cX13_shares 147 = .ok (.getfield 230, 3) := by decide +kernel
theorem dX13_shares_150 : decode cX13_shares 150 = .ok (.aload_n 0, 1) := by decide +kernel
theorem dX13_shares_151 : decode cX13_shares 151 = .ok (.getfield 33, 3) := by decide +kernel
theorem dX13_shares_154 : decode cX13_shares 154 = .ok (.iload 6, 2) := by decide +kernel
theorem dX13_shares_156 : decode cX13_shares 156 = .ok (.iaload, 1) := by decide +kernel
theorem dX13_shares_157 : decode cX13_shares 157 = .ok (.dup2, 1) := by decide +kernel
theorem dX13_shares_158 : decode cX13_shares 158 = .ok (.laload, 1) := by decide +kernel
theorem dX13_shares_159 : decode cX13_shares 159 = .ok (.aload_n 0, 1) := by decide +kernel
theorem dX13_shares_160 : decode cX13_shares 160 = .ok (.getfield 39, 3) := by decide +kernel
theorem dX13_shares_163 : decode cX13_shares 163 = .ok (.iload 6, 2) := by decide +kernel
theorem dX13_shares_165 : decode cX13_shares 165 = .ok (.laload, 1) := by decide +kernel
theorem dX13_shares_166 : decode cX13_shares 166 = .ok (.ladd, 1) := by decide +kernel
theorem dX13_shares_167 : decode cX13_shares 167 = .ok (.lastore, 1) := by decide +kernel
theorem dX13_shares_168 : decode cX13_shares 168 = .ok (.aload_n 0, 1) := by decide +kernel
theorem dX13_shares_169 : decode cX13_shares 169 = .ok (.aload_n 1, 1) := by decide +kernel
theorem dX13_shares_170 : decode cX13_shares 170 = .ok (.iload_n 2, 1) := by decide +kernel
theorem dX13_shares_171 : decode cX13_shares 171 = .ok (.aload_n 0, 1) := by decide +kernel
theorem dX13_shares_172 : decode cX13_shares 172 = .ok (.getfield 33, 3) := by decide +kernel
theorem dX13_shares_175 : decode cX13_shares 175 = .ok (.iload 6, 2) := by decide +kernel
theorem dX13_shares_177 : decode cX13_shares 177 = .ok (.iaload, 1) := by decide +kernel
theorem dX13_shares_178 : decode cX13_shares 178 = .ok (.aload_n 0, 1) := by decide +kernel
theorem dX13_shares_179 : decode cX13_shares 179 = .ok (.getfield 39, 3) := by decide +kernel
theorem dX13_shares_182 : decode cX13_shares 182 = .ok (.iload 6, 2) := by decide +kernel
theorem dX13_shares_184 : decode cX13_shares 184 = .ok (.laload, 1) := by decide +kernel
theorem dX13_shares_185 : decode cX13_shares 185 = .ok (.lneg, 1) := by decide +kernel
theorem dX13_shares_186 : decode cX13_shares 186 = .ok (.invokevirtual 341, 3) := by decide +kernel
theorem dX13_shares_189 : decode cX13_shares 189 = .ok (.iinc 6 1, 3) := by decide +kernel
theorem dX13_shares_192 : decode cX13_shares 192 = .ok (.goto (-55), 3) := by decide +kernel
theorem dX13_shares_195 : decode cX13_shares 195 = .ok (.return_, 1) := by decide +kernel
theorem wd_783 : Cond.fieldLink RX13 43 RX13 "rest" "[J" ∈ lw_good := mem_t6 75 (by decide +kernel) rfl
theorem wd_784 : Cond.constantLong RX13 220 (-1) ∈ lw_good := mem_t7 55 (by decide +kernel) rfl
theorem wd_785 : Cond.methodLink RX13 216 yX13_weighs ∈ lw_good := mem_t7 97 (by decide +kernel) rfl
theorem wd_786 : Cond.instanceMethod yX13_weighs ∈ lw_good := mem_t7 99 (by decide +kernel) rfl
theorem wd_787 : Cond.selects RX13 yX13_weighs yX13_weighs ∈ lw_good := mem_p 46 (by decide +kernel) rfl
theorem wd_788 : Cond.code yX13_weighs cX13_weighs 4 (some .int) ∈ lw_good := mem_t7 100 rfl rfl
theorem wd_789 : Cond.fieldLink RX13 39 RX13 "part" "[J" ∈ lw_good := mem_t6 74 (by decide +kernel) rfl
theorem wd_790 : Cond.methodLink RX13 226 yX13_cut ∈ lw_good := mem_t7 93 (by decide +kernel) rfl
theorem wd_791 : Cond.instanceMethod yX13_cut ∈ lw_good := mem_t7 95 (by decide +kernel) rfl
theorem wd_792 : Cond.selects RX13 yX13_cut yX13_cut ∈ lw_good := mem_p 45 (by decide +kernel) rfl
theorem wd_793 : Cond.code yX13_cut cX13_cut 13 (some .boolean) ∈ lw_good := mem_t7 96 rfl rfl
theorem wd_794 : Cond.fieldLink RX13 46 RX13 "more" "[J" ∈ lw_good := mem_t6 76 (by decide +kernel) rfl
theorem wd_795 : Cond.methodLink RX13 351 yX13_weights ∈ lw_good := mem_t7 89 (by decide +kernel) rfl
theorem wd_796 : Cond.instanceMethod yX13_weights ∈ lw_good := mem_t7 91 (by decide +kernel) rfl
theorem wd_797 : Cond.selects RX13 yX13_weights yX13_weights ∈ lw_good := mem_p 44 (by decide +kernel) rfl
theorem wd_798 : Cond.code yX13_weights cX13_weights 5 none ∈ lw_good := mem_t7 92 rfl rfl
theorem wd_799 : Cond.methodLink RX13 354 yX13_bearing ∈ lw_good := mem_t7 105 (by decide +kernel) rfl
theorem wd_800 : Cond.instanceMethod yX13_bearing ∈ lw_good := mem_t7 107 (by decide +kernel) rfl
theorem wd_801 : Cond.selects RX13 yX13_bearing yX13_bearing ∈ lw_good := mem_p 48 (by decide +kernel) rfl
theorem wd_802 : Cond.code yX13_bearing cX13_bearing 10 (some .long) ∈ lw_good := mem_t7 108 rfl rfl
theorem wd_803 : Cond.methodLink RX13 341 yX13_gives ∈ lw_good := mem_t7 80 (by decide +kernel) rfl
theorem wd_804 : Cond.instanceMethod yX13_gives ∈ lw_good := mem_t7 82 (by decide +kernel) rfl
theorem wd_805 : Cond.selects RX13 yX13_gives yX13_gives ∈ lw_good := mem_p 42 (by decide +kernel) rfl
theorem wd_806 : Cond.code yX13_gives cX13_gives 6 none ∈ lw_good := mem_t7 83 rfl rfl
theorem wd_807 : Cond.methodLink RX13 131 yX12_isFree ∈ lw_good := mem_t6 168 (by decide +kernel) rfl
theorem wd_808 : Cond.instanceMethod yX12_isFree ∈ lw_good := mem_t6 169 (by decide +kernel) rfl
theorem wd_809 : Cond.selects RX12 yX12_isFree yX12_isFree ∈ lw_good := mem_t6 170 (by decide +kernel) rfl
theorem wd_810 : Cond.code yX12_isFree cX12_isFree 2 (some .boolean) ∈ lw_good := mem_t6 171 rfl rfl
theorem lc_net {x y : Int64} (h : ¬ lg_cmp x y = 0) : ¬ x = y := fun q => h ((lg_cmp_eq x y).mpr q)
theorem lc_nef {x y : Int64} (h : lg_cmp x y = 0) : x = y := (lg_cmp_eq x y).mp h
theorem neLe {x y : Int32} (h1 : ¬ y < x) (h2 : ¬ x = y) : ¬ y ≤ x := fun q => h2 (Int32.le_antisymm (Int32.not_lt.mp h1) q)
theorem l1dec {f x : Int64} (e : f = x - 1) (h : ¬ x ≤ 0) : f.toInt.toNat < x.toInt.toNat := by
  subst e
  have a1 := Int64.lt_iff_toInt_lt.mp (Int64.not_le.mp h)
  rw [show (0 : Int64).toInt = 0 from rfl] at a1
  have a2 := Int64.toInt_lt x
  have e : (x - 1).toInt = x.toInt - 1 := by
    rw [Int64.toInt_sub, show (1 : Int64).toInt = 1 from rfl]
    apply Int.bmod_eq_of_le <;> omega
  rw [e]
  omega
set_option maxHeartbeats 4000000 in
set_option maxRecDepth 100000 in
theorem r_X13_cut_97 (l : Launch) (D : va_G) (cy : Nat → ClassId) (K : Kp) (L : List Nat) (M : Hp) (sz : Nat) (za : Nat) (z0 : Int32) (z1 : Nat) (z2 : Nat) (z3 : Nat) (z4 : Int32) (z5 : Int32) (z6 : Nat) (z7 : Nat) (z8 : Nat) (z9 : Nat) (z10 : Nat) (z11 : Nat) (z12 : Nat) (z13 : Nat) (z14 : Nat) (z15 : Nat) (z16 : Nat) (z17 : Nat) (z18 : Int32) (z19 : Nat) (k1 : Int64) (k2 : Nat) (k3 : Int32) (k4 : Nat) (hW : WOM cy K L M) (i1 : isk K L z1 23 8) (b2 : z2 ≤ 8) (b3 : z3 ≤ 40) (i6 : isk K L z6 47 40) (i7 : isk K L z7 48 40) (i8 : isk K L z8 49 8) (i9 : isk K L z9 50 8) (b10 : z10 ≤ 8) (i11 : isk K L z11 32 24) (i12 : isk K L z12 14 24) (i13 : isk K L z13 97 24) (i14 : isk K L z14 98 24) (i15 : isk K L z15 99 24) (b16 : z16 ≤ 24) (i17 : isk K L z17 14 24) (i19 : isk K L z19 15 25) (ik2 : isk K L k2 97 24) (ik4 : isk K L k4 12 0) : Met l yX13_cut (wsM yX13_cut cX13_cut 13 (some .boolean)) ({ frames := 2, cells := 0, slots := 0, locals := 46 }) (va_Pc [.ref za, .long k1, .ref k2, .int k3, .ref k4] (PG D cy [(za, (b13_0 z0 z1 (nI z2) (nI z3) z4 z5 z6 z7 z8 z9 (nI z10) z11 z12 z13 z14 z15 (nI z16) z17 z18 z19))] L M sz)) (va_Qi (fun (r : Int32) (M9 : Hp) => WOM cy K L M9 ∧ fr K L [97, 98] M M9 ∧ ((r = 1) ∨ (r = 0))) (fun M9 t => PQ D [(za, (b13_0 z0 z1 (nI z2) (nI z3) z4 z5 z6 z7 z8 z9 (nI z10) z11 z12 z13 z14 z15 (nI z16) z17 z18 z19))] L M9 (va_A ([(za, (b13_0 z0 z1 (nI z2) (nI z3) z4 z5 z6 z7 z8 z9 (nI z10) z11 z12 z13 z14 z15 (nI z16) z17 z18 z19))] ++ va_pl L M) sz) t) (va_A ([(za, (b13_0 z0 z1 (nI z2) (nI z3) z4 z5 z6 z7 z8 z9 (nI z10) z11 z12 z13 z14 z15 (nI z16) z17 z18 z19))] ++ va_pl L M) sz)) 0 0 (va_A ([(za, (b13_0 z0 z1 (nI z2) (nI z3) z4 z5 z6 z7 z8 z9 (nI z10) z11 z12 z13 z14 z15 (nI z16) z17 z18 z19))] ++ va_pl L M) sz) := by
  refine Met.ofW (cc := cX13_cut) (maxL := 13) (ret := (some .boolean)) (by decide) rfl ?_
  intro p e s m args below meth c s₁ B hml hv
  obtain ⟨rfl, hsz, hP, hK, hD0, hN⟩ := hv
  have hx := B.exec
  have hb := B.bytes
  have hr := B.returns
  have hts := atoms_spec (ws := (wsM yX13_cut cX13_cut 13 (some .boolean))) B.pre
  have hg : ∀ w ∈ lw_good, w.before _ s = true := fun w h => hts w (List.mem_cons_of_mem _ h)
  have hown : s.vm.findClass RX13 = some m.cls := findClass_of_methodNamed B.named
  have hlocks := B.notSynchronized
  subst hsz
  have hD := hD0.self (sz := s.heap.size)
  generalize hAe : va_A ([(za, (b13_0 z0 z1 (nI z2) (nI z3) z4 z5 z6 z7 z8 z9 (nI z10) z11 z12 z13 z14 z15 (nI z16) z17 z18 z19))] ++ va_pl L M) s.heap.size = A at hD ⊢
  have hA : ∀ q : Nat, s.heap.size ≤ q → A q := fun q h => by rw [← hAe]; exact Or.inr h
  have hS : va_S A s.heap s.heap [] := va_S.rf
  have hl := lv_entry ([.ref za, .long k1, .ref k2, .int k3, .ref k4]) (n := 13) (Nat.le_of_ble_eq_true rfl)
  rw [lg_entry_eq]
  generalize (lg_sl ([.ref za, .long k1, .ref k2, .int k3, .ref k4]) ++ List.replicate (13 - (lg_sl ([.ref za, .long k1, .ref k2, .int k3, .ref k4])).length) Slot.unset).toArray = ls at hl ⊢
  refine W.nameQ (fun Q hQ => ?_)
  refine W.nameR (fun R hR => ?_)
  have hRf : 2 ≤ R.frames := by rw [hR]; exact Nat.le_of_ble_eq_true rfl
  have hRl : 46 ≤ R.locals := by rw [hR]; exact Nat.le_of_ble_eq_true rfl
  have hRc : 0 ≤ R.cells := by rw [hR]; exact Nat.le_of_ble_eq_true rfl
  have hRs : 0 ≤ R.slots := by rw [hR]; exact Nat.le_of_ble_eq_true rfl
  have hF : fr K L [97, 98] M M := fr.rf
  have hl : lv_has ls 13 [(0, .ref za), (1, .long k1), (3, .ref k2), (4, .int k3), (5, .ref k4)] := hl
  refine lv_lconst (v := 0) hx hb dX13_cut_0 (by decide) ?_
  refine lv_lstore (lv' := [(6, .long 0), (0, .ref za), (1, .long k1), (3, .ref k2), (4, .int k3), (5, .ref k4)]) hx hb dX13_cut_1 hl (by decide) rfl (fun ls hl => ?_)
  refine lv_iconst (v := 0) hx hb dX13_cut_3 (by decide) ?_
  refine lv_istore (lv' := [(8, .int 0), (6, .long 0), (0, .ref za), (1, .long k1), (3, .ref k2), (4, .int k3), (5, .ref k4)]) hx hb dX13_cut_4 hl (by decide) rfl (fun ls hl => ?_)
  have key_1 : ∀ (fu_3 : Nat) (v6w4 : Int64) (v8w4 : Nat) (M_6 : Hp) (H_7 : Heap) (locs : List Loc) (ls : Array Slot), 24 - v8w4 < fu_3 → v8w4 ≤ 24 → WOM cy K L M_6 → fr K L [97, 98] M M_6 → va_P D vwCl ([(za, (b13_0 z0 z1 (nI z2) (nI z3) z4 z5 z6 z7 z8 z9 (nI z10) z11 z12 z13 z14 z15 (nI z16) z17 z18 z19))] ++ va_pl L M_6) H_7 → va_D A ([(za, (b13_0 z0 z1 (nI z2) (nI z3) z4 z5 z6 z7 z8 z9 (nI z10) z11 z12 z13 z14 z15 (nI z16) z17 z18 z19))] ++ va_pl L M_6) → va_S A s.heap H_7 locs → lv_has ls 13 [(8, .int (nI v8w4)), (6, .long v6w4), (0, .ref za), (1, .long k1), (3, .ref k2), (4, .int k3), (5, .ref k4)] → W p l e R s m ([.ref za, .long k1, .ref k2, .int k3, .ref k4] : List Value).toArray below meth c H_7 locs 0 0 Q (F0 m 6 ls []) := by
    intro fu_3
    induction fu_3 with
    | zero => intro v6w4 v8w4 M_6 H_7 locs ls h; exact absurd h (Nat.not_lt_zero _)
    | succ fu_3 ih_2 =>
      intro v6w4 v8w4 M_6 H_7 locs ls hfu hx_5 hW hF hP hD hS hl
      refine lv_iload hx hb dX13_cut_6 (lv_at hl 0 rfl) ?_
      refine lv_aload_n hx hb dX13_cut_8 rfl (lv_at hl 2 rfl) ?_
      refine va_get (D := D) (ci := 13) (v := .int (nI z16)) (C := RX13) (T := TX13) (N := 20) hx hb hg inG13 hown hK hP 0 rfl rfl 16 (by decide) (hg _ wd_769) (fun _ h9 => h9) rfl dX13_cut_9 ?_
      refine lv_icmp_ge (tgt := 42) hx hb dX13_cut_12 (by decide) (fun c_8 => ?_) (fun c_8 => ?_)
      · have hz := rfl (a := 0)
        have n_9 : z16 ≤ v8w4 := (iLE (a := z16) (b := v8w4) (by omega) (by omega)).mp c_8
        refine lv_lload hx hb dX13_cut_42 (lv_at hl 1 rfl) ?_
        refine lv_lconst (v := 0) hx hb dX13_cut_44 (by decide) ?_
        refine W.lcmp hx hb dX13_cut_45 ?_
        refine lv_if_ne (tgt := 51) hx hb dX13_cut_46 (by decide) (fun c_10 => ?_) (fun c_10 => ?_)
        · have hz := rfl (a := 0)
          have d_11 : ¬ v6w4 = 0 := lc_net c_10
          refine lv_lload_n hx hb dX13_cut_51 rfl (lv_at hl 3 rfl) ?_
          refine lv_lstore (lv' := [(8, .long k1), (6, .long v6w4), (0, .ref za), (1, .long k1), (3, .ref k2), (4, .int k3), (5, .ref k4)]) hx hb dX13_cut_52 hl (by decide) rfl (fun ls hl => ?_)
          refine lv_iconst (v := 0) hx hb dX13_cut_54 (by decide) ?_
          refine lv_istore (lv' := [(10, .int 0), (8, .long k1), (6, .long v6w4), (0, .ref za), (1, .long k1), (3, .ref k2), (4, .int k3), (5, .ref k4)]) hx hb dX13_cut_55 hl (by decide) rfl (fun ls hl => ?_)
          have key_12 : ∀ (fu_14 : Nat) (v8w15 : Int64) (v10w15 : Nat) (M_17 : Hp) (H_18 : Heap) (locs : List Loc) (ls : Array Slot), 24 - v10w15 < fu_14 → v10w15 ≤ 24 → WOM cy K L M_17 → fr K L [97, 98] M M_17 → va_P D vwCl ([(za, (b13_0 z0 z1 (nI z2) (nI z3) z4 z5 z6 z7 z8 z9 (nI z10) z11 z12 z13 z14 z15 (nI z16) z17 z18 z19))] ++ va_pl L M_17) H_18 → va_D A ([(za, (b13_0 z0 z1 (nI z2) (nI z3) z4 z5 z6 z7 z8 z9 (nI z10) z11 z12 z13 z14 z15 (nI z16) z17 z18 z19))] ++ va_pl L M_17) → va_S A s.heap H_18 locs → lv_has ls 13 [(10, .int (nI v10w15)), (8, .long v8w15), (6, .long v6w4), (0, .ref za), (1, .long k1), (3, .ref k2), (4, .int k3), (5, .ref k4)] → W p l e R s m ([.ref za, .long k1, .ref k2, .int k3, .ref k4] : List Value).toArray below meth c H_18 locs 0 0 Q (F0 m 57 ls []) := by
            intro fu_14
            induction fu_14 with
            | zero => intro v8w15 v10w15 M_17 H_18 locs ls h; exact absurd h (Nat.not_lt_zero _)
            | succ fu_14 ih_13 =>
              intro v8w15 v10w15 M_17 H_18 locs ls hfu hx_16 hW hF hP hD hS hl
              refine lv_iload hx hb dX13_cut_57 (lv_at hl 0 rfl) ?_
              refine lv_aload_n hx hb dX13_cut_59 rfl (lv_at hl 3 rfl) ?_
              refine va_get (D := D) (ci := 13) (v := .int (nI z16)) (C := RX13) (T := TX13) (N := 20) hx hb hg inG13 hown hK hP 0 rfl rfl 16 (by decide) (hg _ wd_769) (fun _ h9 => h9) rfl dX13_cut_60 ?_
              refine lv_icmp_ge (tgt := 117) hx hb dX13_cut_63 (by decide) (fun c_19 => ?_) (fun c_19 => ?_)
              · have hz := rfl (a := 0)
                have n_20 : z16 ≤ v10w15 := (iLE (a := z16) (b := v10w15) (by omega) (by omega)).mp c_19
                have hl : lv_has ls 13 [(8, .long v8w15), (6, .long v6w4), (0, .ref za), (1, .long k1), (3, .ref k2), (4, .int k3), (5, .ref k4)] := lv_sub hl [1, 2, 3, 4, 5, 6, 7] rfl
                have key_21 : ∀ (fu_23 : Nat) (v8w24 : Int64) (M_25 : Hp) (H_26 : Heap) (locs : List Loc) (ls : Array Slot), v8w24.toInt.toNat < fu_23 → WOM cy K L M_25 → fr K L [97, 98] M M_25 → va_P D vwCl ([(za, (b13_0 z0 z1 (nI z2) (nI z3) z4 z5 z6 z7 z8 z9 (nI z10) z11 z12 z13 z14 z15 (nI z16) z17 z18 z19))] ++ va_pl L M_25) H_26 → va_D A ([(za, (b13_0 z0 z1 (nI z2) (nI z3) z4 z5 z6 z7 z8 z9 (nI z10) z11 z12 z13 z14 z15 (nI z16) z17 z18 z19))] ++ va_pl L M_25) → va_S A s.heap H_26 locs → lv_has ls 13 [(8, .long v8w24), (6, .long v6w4), (0, .ref za), (1, .long k1), (3, .ref k2), (4, .int k3), (5, .ref k4)] → W p l e R s m ([.ref za, .long k1, .ref k2, .int k3, .ref k4] : List Value).toArray below meth c H_26 locs 0 0 Q (F0 m 117 ls []) := by
                  intro fu_23
                  induction fu_23 with
                  | zero => intro v8w24 M_25 H_26 locs ls h; exact absurd h (Nat.not_lt_zero _)
                  | succ fu_23 ih_22 =>
                    intro v8w24 M_25 H_26 locs ls hfu hW hF hP hD hS hl
                    refine lv_lload hx hb dX13_cut_117 (lv_at hl 0 rfl) ?_
                    refine lv_lconst (v := 0) hx hb dX13_cut_119 (by decide) ?_
                    refine W.lcmp hx hb dX13_cut_120 ?_
                    refine lv_if_le (tgt := 194) hx hb dX13_cut_121 (by decide) (fun c_27 => ?_) (fun c_27 => ?_)
                    · have hz := rfl (a := 0)
                      have d_28 : v8w24 ≤ 0 := lc_let c_27
                      refine lv_iconst (v := 1) hx hb dX13_cut_194 (by decide) ?_
                      rw [hQ]
                      exact W.zret (v := 1) hx hb hr rfl (fun t ht hW9 => ⟨⟨1, M_25, rfl, ⟨hW, hF, (Or.inl rfl)⟩, ⟨by rw [ht]; exact hP, hD⟩⟩, hS.F ht⟩) hS.2.2 dX13_cut_195
                    · have hz := rfl (a := 0)
                      have d_28 : ¬ v8w24 ≤ 0 := lc_lef c_27
                      refine lv_iconst (v := 0) hx hb dX13_cut_124 (by decide) ?_
                      refine lv_istore (lv' := [(10, .int 0), (8, .long v8w24), (6, .long v6w4), (0, .ref za), (1, .long k1), (3, .ref k2), (4, .int k3), (5, .ref k4)]) hx hb dX13_cut_125 hl (by decide) rfl (fun ls hl => ?_)
                      refine lv_iconst (v := 1) hx hb dX13_cut_127 (by decide) ?_
                      refine lv_istore (lv' := [(11, .int 1), (10, .int 0), (8, .long v8w24), (6, .long v6w4), (0, .ref za), (1, .long k1), (3, .ref k2), (4, .int k3), (5, .ref k4)]) hx hb dX13_cut_128 hl (by decide) rfl (fun ls hl => ?_)
                      have key_29 : ∀ (fu_31 : Nat) (v10w32 : Nat) (v11w32 : Nat) (M_35 : Hp) (H_36 : Heap) (locs : List Loc) (ls : Array Slot), 24 - v11w32 < fu_31 → v10w32 < 24 → v11w32 ≤ 24 → WOM cy K L M_35 → fr K L [97, 98] M M_35 → va_P D vwCl ([(za, (b13_0 z0 z1 (nI z2) (nI z3) z4 z5 z6 z7 z8 z9 (nI z10) z11 z12 z13 z14 z15 (nI z16) z17 z18 z19))] ++ va_pl L M_35) H_36 → va_D A ([(za, (b13_0 z0 z1 (nI z2) (nI z3) z4 z5 z6 z7 z8 z9 (nI z10) z11 z12 z13 z14 z15 (nI z16) z17 z18 z19))] ++ va_pl L M_35) → va_S A s.heap H_36 locs → lv_has ls 13 [(11, .int (nI v11w32)), (10, .int (nI v10w32)), (8, .long v8w24), (6, .long v6w4), (0, .ref za), (1, .long k1), (3, .ref k2), (4, .int k3), (5, .ref k4)] → W p l e R s m ([.ref za, .long k1, .ref k2, .int k3, .ref k4] : List Value).toArray below meth c H_36 locs 0 0 Q (F0 m 130 ls []) := by
                        intro fu_31
                        induction fu_31 with
                        | zero => intro v10w32 v11w32 M_35 H_36 locs ls h; exact absurd h (Nat.not_lt_zero _)
                        | succ fu_31 ih_30 =>
                          intro v10w32 v11w32 M_35 H_36 locs ls hfu hx_33 hx_34 hW hF hP hD hS hl
                          refine lv_iload hx hb dX13_cut_130 (lv_at hl 0 rfl) ?_
                          refine lv_aload_n hx hb dX13_cut_132 rfl (lv_at hl 4 rfl) ?_
                          refine va_get (D := D) (ci := 13) (v := .int (nI z16)) (C := RX13) (T := TX13) (N := 20) hx hb hg inG13 hown hK hP 0 rfl rfl 16 (by decide) (hg _ wd_769) (fun _ h9 => h9) rfl dX13_cut_133 ?_
                          refine lv_icmp_ge (tgt := 167) hx hb dX13_cut_136 (by decide) (fun c_37 => ?_) (fun c_37 => ?_)
                          · have hz := rfl (a := 0)
                            have n_38 : z16 ≤ v11w32 := (iLE (a := z16) (b := v11w32) (by omega) (by omega)).mp c_37
                            refine lv_aload_n hx hb dX13_cut_167 rfl (lv_at hl 6 rfl) ?_
                            refine lv_iload hx hb dX13_cut_168 (lv_at hl 1 rfl) ?_
                            refine lv_dup2_11 hx hb dX13_cut_170 rfl rfl ?_
                            obtain ⟨f39, hM39⟩ := hW.open_97 ik2
                            refine pg_lald hx hb hK hP ik2.1 1 hM39 rfl (inbN v10w32 24 (by omega) (by omega)) dX13_cut_171 ?_
                            refine lv_topl (fun f_40 ef_40 => ?_)
                            refine lv_lconst (v := 1) hx hb dX13_cut_172 (by decide) ?_
                            refine lv_ladd hx hb dX13_cut_173 ?_
                            refine lv_topl (fun f_41 ef_41 => ?_)
                            refine pg_last hx hb hK hP hD hS ik2.1 1 hM39 rfl (inbN v10w32 24 (by omega) (by omega)) dX13_cut_174 (fun H_42 locs hP hD hS => ?_)
                            obtain ⟨M_43, eM_43⟩ : ∃ M1 : Hp, M1 = va_up M_35 k2 (.inl (cy 15, 24, .inr (.inl (vp_updL f39 ((nI v10w32) : Int32).toNatClampNeg f_41)))) := ⟨_, rfl⟩
                            have hP : va_P D vwCl ([(za, (b13_0 z0 z1 (nI z2) (nI z3) z4 z5 z6 z7 z8 z9 (nI z10) z11 z12 z13 z14 z15 (nI z16) z17 z18 z19))] ++ va_pl L M_43) H_42 := by rw [eM_43]; exact hP
                            have hD : va_D A ([(za, (b13_0 z0 z1 (nI z2) (nI z3) z4 z5 z6 z7 z8 z9 (nI z10) z11 z12 z13 z14 z15 (nI z16) z17 z18 z19))] ++ va_pl L M_43) := by rw [eM_43]; exact hD
                            have hW : WOM cy K L M_43 := by rw [eM_43]; exact hW.up_97 ik2 ⟨_, rfl⟩
                            have hF : fr K L [97, 98] M M_43 := by rw [eM_43]; exact hF.up ik2 (by decide)
                            have hM_44 : M_43 k2 = .inl (cy 15, 24, .inr (.inl (vp_updL f39 ((nI v10w32) : Int32).toNatClampNeg f_41))) := by rw [eM_43]; exact va_up_self _ _ _
                            obtain ⟨f_45, ef_45⟩ : ∃ f : Nat → Int64, f = vp_updL f39 ((nI v10w32) : Int32).toNatClampNeg f_41 := ⟨_, rfl⟩
                            rw [← ef_45] at hM_44
                            clear ef_45
                            refine lv_aload_n hx hb dX13_cut_175 rfl (lv_at hl 4 rfl) ?_
                            refine va_get (D := D) (ci := 13) (v := .ref z14) (C := RX13) (T := TX13) (N := 20) hx hb hg inG13 hown hK hP 0 rfl rfl 14 (by decide) (hg _ wd_783) (fun _ h9 => h9) rfl dX13_cut_176 ?_
                            refine lv_iload hx hb dX13_cut_179 (lv_at hl 1 rfl) ?_
                            refine lv_ldc2 (v := (-1)) hx hb hown (hg _ wd_784) dX13_cut_181 ?_
                            obtain ⟨f46, hM46⟩ := hW.open_98 i14
                            refine pg_last hx hb hK hP hD hS i14.1 1 hM46 rfl (inbN v10w32 24 (by omega) (by omega)) dX13_cut_184 (fun H_47 locs hP hD hS => ?_)
                            obtain ⟨M_48, eM_48⟩ : ∃ M1 : Hp, M1 = va_up M_43 z14 (.inl (cy 15, 24, .inr (.inl (vp_updL f46 ((nI v10w32) : Int32).toNatClampNeg (-1))))) := ⟨_, rfl⟩
                            have hP : va_P D vwCl ([(za, (b13_0 z0 z1 (nI z2) (nI z3) z4 z5 z6 z7 z8 z9 (nI z10) z11 z12 z13 z14 z15 (nI z16) z17 z18 z19))] ++ va_pl L M_48) H_47 := by rw [eM_48]; exact hP
                            have hD : va_D A ([(za, (b13_0 z0 z1 (nI z2) (nI z3) z4 z5 z6 z7 z8 z9 (nI z10) z11 z12 z13 z14 z15 (nI z16) z17 z18 z19))] ++ va_pl L M_48) := by rw [eM_48]; exact hD
                            have hW : WOM cy K L M_48 := by rw [eM_48]; exact hW.up_98 i14 ⟨_, rfl⟩
                            have hF : fr K L [97, 98] M M_48 := by rw [eM_48]; exact hF.up i14 (by decide)
                            have hM_49 : M_48 z14 = .inl (cy 15, 24, .inr (.inl (vp_updL f46 ((nI v10w32) : Int32).toNatClampNeg (-1)))) := by rw [eM_48]; exact va_up_self _ _ _
                            have hM_50 : M_48 k2 = .inl (cy 15, 24, .inr (.inl (f_45))) := by rw [eM_48, va_up_ne _ _ (ik2.neT i14 (by decide))]; exact hM_44
                            obtain ⟨f_51, ef_51⟩ : ∃ f : Nat → Int64, f = vp_updL f46 ((nI v10w32) : Int32).toNatClampNeg (-1) := ⟨_, rfl⟩
                            rw [← ef_51] at hM_49
                            clear ef_51
                            refine lv_lload hx hb dX13_cut_185 (lv_at hl 2 rfl) ?_
                            refine lv_lconst (v := 1) hx hb dX13_cut_187 (by decide) ?_
                            refine lv_lsub hx hb dX13_cut_188 ?_
                            refine lv_topl (fun f_52 ef_52 => ?_)
                            refine lv_lstore (lv' := [(8, .long f_52), (11, .int (nI v11w32)), (10, .int (nI v10w32)), (6, .long v6w4), (0, .ref za), (1, .long k1), (3, .ref k2), (4, .int k3), (5, .ref k4)]) hx hb dX13_cut_189 hl (by decide) rfl (fun ls hl => ?_)
                            refine lv_goto (tgt := 117) hx hb dX13_cut_191 (by decide) ?_
                            exact ih_22 f_52 M_48 H_47 _ _ (by have h9 := l1dec ef_52 d_28; omega) hW hF hP hD hS (lv_sub hl [0, 3, 4, 5, 6, 7, 8] rfl)
                          · have hz := rfl (a := 0)
                            have n_53 : ¬ (z16 ≤ v11w32) := fun q => c_37 ((iLE (a := z16) (b := v11w32) (by omega) (by omega)).mpr q)
                            refine lv_aload_n hx hb dX13_cut_139 rfl (lv_at hl 4 rfl) ?_
                            refine va_get (D := D) (ci := 13) (v := .ref z14) (C := RX13) (T := TX13) (N := 20) hx hb hg inG13 hown hK hP 0 rfl rfl 14 (by decide) (hg _ wd_783) (fun _ h9 => h9) rfl dX13_cut_140 ?_
                            refine lv_iload hx hb dX13_cut_143 (lv_at hl 0 rfl) ?_
                            obtain ⟨f54, hM54⟩ := hW.open_98 i14
                            refine pg_lald hx hb hK hP i14.1 1 hM54 rfl (inbN v11w32 24 (by omega) (by omega)) dX13_cut_145 ?_
                            refine lv_topl (fun f_55 ef_55 => ?_)
                            refine lv_aload_n hx hb dX13_cut_146 rfl (lv_at hl 4 rfl) ?_
                            refine va_get (D := D) (ci := 13) (v := .ref z14) (C := RX13) (T := TX13) (N := 20) hx hb hg inG13 hown hK hP 0 rfl rfl 14 (by decide) (hg _ wd_783) (fun _ h9 => h9) rfl dX13_cut_147 ?_
                            refine lv_iload hx hb dX13_cut_150 (lv_at hl 1 rfl) ?_
                            refine pg_lald hx hb hK hP i14.1 1 hM54 rfl (inbN v10w32 24 (by omega) (by omega)) dX13_cut_152 ?_
                            refine lv_topl (fun f_56 ef_56 => ?_)
                            refine W.lcmp hx hb dX13_cut_153 ?_
                            refine lv_if_le (tgt := 161) hx hb dX13_cut_154 (by decide) (fun c_57 => ?_) (fun c_57 => ?_)
                            · have hz := rfl (a := 0)
                              have d_58 : f_55 ≤ f_56 := lc_let c_57
                              refine lv_iinc (v := (nI (v11w32 + 1))) (lv' := [(11, .int (nI (v11w32 + 1))), (10, .int (nI v10w32)), (8, .long v8w24), (6, .long v6w4), (0, .ref za), (1, .long k1), (3, .ref k2), (4, .int k3), (5, .ref k4)]) hx hb dX13_cut_161 hl (k := 0) rfl (nI_1 v11w32) (by decide) rfl (fun ls hl => ?_)
                              refine lv_goto (tgt := 130) hx hb dX13_cut_164 (by decide) ?_
                              exact ih_30 v10w32 (v11w32 + 1) M_35 H_36 _ _ (by omega) (by omega) (by omega) hW hF hP hD hS (lv_sub hl [0, 1, 2, 3, 4, 5, 6, 7, 8] rfl)
                            · have hz := rfl (a := 0)
                              have d_58 : ¬ f_55 ≤ f_56 := lc_lef c_57
                              refine lv_iload hx hb dX13_cut_157 (lv_at hl 0 rfl) ?_
                              refine lv_istore (lv' := [(10, .int (nI v11w32)), (11, .int (nI v11w32)), (8, .long v8w24), (6, .long v6w4), (0, .ref za), (1, .long k1), (3, .ref k2), (4, .int k3), (5, .ref k4)]) hx hb dX13_cut_159 hl (by decide) rfl (fun ls hl => ?_)
                              refine lv_iinc (v := (nI (v11w32 + 1))) (lv' := [(11, .int (nI (v11w32 + 1))), (10, .int (nI v11w32)), (8, .long v8w24), (6, .long v6w4), (0, .ref za), (1, .long k1), (3, .ref k2), (4, .int k3), (5, .ref k4)]) hx hb dX13_cut_161 hl (k := 1) rfl (nI_1 v11w32) (by decide) rfl (fun ls hl => ?_)
                              refine lv_goto (tgt := 130) hx hb dX13_cut_164 (by decide) ?_
                              exact ih_30 v11w32 (v11w32 + 1) M_35 H_36 _ _ (by omega) (by omega) (by omega) hW hF hP hD hS (lv_sub hl [0, 1, 2, 3, 4, 5, 6, 7, 8] rfl)
                      exact key_29 (24 - 1 + 1) 0 1 M_25 H_26 _ _ (by omega) (by omega) (by omega) hW hF hP hD hS (lv_sub hl [0, 1, 2, 3, 4, 5, 6, 7, 8] rfl)
                exact key_21 (v8w15.toInt.toNat + 1) v8w15 M_17 H_18 _ _ (by omega) hW hF hP hD hS (lv_sub hl [0, 1, 2, 3, 4, 5, 6] rfl)
              · have hz := rfl (a := 0)
                have n_59 : ¬ (z16 ≤ v10w15) := fun q => c_19 ((iLE (a := z16) (b := v10w15) (by omega) (by omega)).mpr q)
                refine lv_lload_n hx hb dX13_cut_66 rfl (lv_at hl 4 rfl) ?_
                refine lv_aload_n hx hb dX13_cut_67 rfl (lv_at hl 3 rfl) ?_
                refine lv_iload hx hb dX13_cut_68 (lv_at hl 0 rfl) ?_
                refine lv_iload hx hb dX13_cut_70 (lv_at hl 6 rfl) ?_
                refine lv_aload hx hb dX13_cut_72 (lv_at hl 7 rfl) ?_
                have hPc : va_P D vwCl ([(za, (b13_0 z0 z1 (nI z2) (nI z3) z4 z5 z6 z7 z8 z9 (nI z10) z11 z12 z13 z14 z15 (nI z16) z17 z18 z19))] ++ va_pl L M_17) H_18 := hP
                have hDc : va_D A ([(za, (b13_0 z0 z1 (nI z2) (nI z3) z4 z5 z6 z7 z8 z9 (nI z10) z11 z12 z13 z14 z15 (nI z16) z17 z18 z19))] ++ va_pl L M_17) := hD
                have hFc : ∀ q, va_A ([(za, (b13_0 z0 z1 (nI z2) (nI z3) z4 z5 z6 z7 z8 z9 (nI z10) z11 z12 z13 z14 z15 (nI z16) z17 z18 z19))] ++ va_pl L M_17) H_18.size q → A q := pg_free hDc hS hA
                refine va_calli (va_runV (As := [.int (nI v10w15), .int k3, .ref k4]) (rest := [.long k1]) ⟨hx, hb, hml, hown, hg⟩ (r_X13_weighs l D cy K L M_17 H_18.size za z0 z1 z2 z3 z4 z5 z6 z7 z8 z9 z10 z11 z12 z13 z14 z15 z16 z17 z18 z19 v10w15 k3 k4  hW i1 b2 b3 i6 i7 i8 i9 b10 i11 i12 i13 i14 i15 b16 i17 i19 (by omega) ik4) (cwV 3 hg (gV wd_785 wd_786 wd_787 wd_717 wd_788) rfl rfl rfl (by decide +kernel) ⟨(Nat.le_trans (Nat.le_of_ble_eq_true rfl) hRf), (Nat.le_trans (Nat.le_of_ble_eq_true rfl) hRl)⟩) ⟨PG.blind, va_recv hK hP (ci := 13) (q0 := 0) rfl rfl, fun U hU hW => ⟨rfl, PG.at hPc hK hDc hN hU hW⟩⟩ rfl rfl hl.1 rfl (lv_room (Nat.le_of_ble_eq_true rfl)) dX13_cut_74 ⟨(Nat.le_trans (Nat.le_of_ble_eq_true rfl) hRc), (Nat.le_trans (Nat.le_of_ble_eq_true rfl) hRs)⟩) hS (fun q _ h => hFc q h) hFc (fun r_61 M_62 t H_60 locs ht hvm hw hB hz1 hk1 hS => ?_)
                have hp_63 := hw
                obtain ⟨hP1, hD1⟩ := hB
                rw [ht] at hP1
                have hP : va_P D vwCl ([(za, (b13_0 z0 z1 (nI z2) (nI z3) z4 z5 z6 z7 z8 z9 (nI z10) z11 z12 z13 z14 z15 (nI z16) z17 z18 z19))] ++ va_pl L M_17) H_60 := hP1
                have hD : va_D A ([(za, (b13_0 z0 z1 (nI z2) (nI z3) z4 z5 z6 z7 z8 z9 (nI z10) z11 z12 z13 z14 z15 (nI z16) z17 z18 z19))] ++ va_pl L M_17) := hD1.mono hFc
                refine lv_i2l hx hb dX13_cut_77 rfl ?_
                refine lv_topl (fun f_64 ef_64 => ?_)
                refine lv_lmul hx hb dX13_cut_78 ?_
                refine lv_topl (fun f_65 ef_65 => ?_)
                refine lv_lstore (lv' := [(11, .long f_65), (10, .int (nI v10w15)), (8, .long v8w15), (6, .long v6w4), (0, .ref za), (1, .long k1), (3, .ref k2), (4, .int k3), (5, .ref k4)]) hx hb dX13_cut_79 hl (by decide) rfl (fun ls hl => ?_)
                refine lv_aload_n hx hb dX13_cut_81 rfl (lv_at hl 6 rfl) ?_
                refine lv_iload hx hb dX13_cut_82 (lv_at hl 1 rfl) ?_
                refine lv_lload hx hb dX13_cut_84 (lv_at hl 0 rfl) ?_
                refine lv_lload hx hb dX13_cut_86 (lv_at hl 3 rfl) ?_
                refine lv_ldiv hx hb dX13_cut_88 d_11 ?_
                refine lv_topl (fun f_66 ef_66 => ?_)
                obtain ⟨f67, hM67⟩ := hW.open_97 ik2
                refine pg_last hx hb hK hP hD hS ik2.1 1 hM67 rfl (inbN v10w15 24 (by omega) (by omega)) dX13_cut_89 (fun H_68 locs hP hD hS => ?_)
                obtain ⟨M_69, eM_69⟩ : ∃ M1 : Hp, M1 = va_up M_17 k2 (.inl (cy 15, 24, .inr (.inl (vp_updL f67 ((nI v10w15) : Int32).toNatClampNeg f_66)))) := ⟨_, rfl⟩
                have hP : va_P D vwCl ([(za, (b13_0 z0 z1 (nI z2) (nI z3) z4 z5 z6 z7 z8 z9 (nI z10) z11 z12 z13 z14 z15 (nI z16) z17 z18 z19))] ++ va_pl L M_69) H_68 := by rw [eM_69]; exact hP
                have hD : va_D A ([(za, (b13_0 z0 z1 (nI z2) (nI z3) z4 z5 z6 z7 z8 z9 (nI z10) z11 z12 z13 z14 z15 (nI z16) z17 z18 z19))] ++ va_pl L M_69) := by rw [eM_69]; exact hD
                have hW : WOM cy K L M_69 := by rw [eM_69]; exact hW.up_97 ik2 ⟨_, rfl⟩
                have hF : fr K L [97, 98] M M_69 := by rw [eM_69]; exact hF.up ik2 (by decide)
                have hM_70 : M_69 k2 = .inl (cy 15, 24, .inr (.inl (vp_updL f67 ((nI v10w15) : Int32).toNatClampNeg f_66))) := by rw [eM_69]; exact va_up_self _ _ _
                obtain ⟨f_71, ef_71⟩ : ∃ f : Nat → Int64, f = vp_updL f67 ((nI v10w15) : Int32).toNatClampNeg f_66 := ⟨_, rfl⟩
                rw [← ef_71] at hM_70
                clear ef_71
                refine lv_aload_n hx hb dX13_cut_90 rfl (lv_at hl 4 rfl) ?_
                refine va_get (D := D) (ci := 13) (v := .ref z14) (C := RX13) (T := TX13) (N := 20) hx hb hg inG13 hown hK hP 0 rfl rfl 14 (by decide) (hg _ wd_783) (fun _ h9 => h9) rfl dX13_cut_91 ?_
                refine lv_iload hx hb dX13_cut_94 (lv_at hl 1 rfl) ?_
                refine lv_lload hx hb dX13_cut_96 (lv_at hl 0 rfl) ?_
                refine lv_lload hx hb dX13_cut_98 (lv_at hl 3 rfl) ?_
                refine lv_lrem hx hb dX13_cut_100 d_11 ?_
                refine lv_topl (fun f_72 ef_72 => ?_)
                obtain ⟨f73, hM73⟩ := hW.open_98 i14
                refine pg_last hx hb hK hP hD hS i14.1 1 hM73 rfl (inbN v10w15 24 (by omega) (by omega)) dX13_cut_101 (fun H_74 locs hP hD hS => ?_)
                obtain ⟨M_75, eM_75⟩ : ∃ M1 : Hp, M1 = va_up M_69 z14 (.inl (cy 15, 24, .inr (.inl (vp_updL f73 ((nI v10w15) : Int32).toNatClampNeg f_72)))) := ⟨_, rfl⟩
                have hP : va_P D vwCl ([(za, (b13_0 z0 z1 (nI z2) (nI z3) z4 z5 z6 z7 z8 z9 (nI z10) z11 z12 z13 z14 z15 (nI z16) z17 z18 z19))] ++ va_pl L M_75) H_74 := by rw [eM_75]; exact hP
                have hD : va_D A ([(za, (b13_0 z0 z1 (nI z2) (nI z3) z4 z5 z6 z7 z8 z9 (nI z10) z11 z12 z13 z14 z15 (nI z16) z17 z18 z19))] ++ va_pl L M_75) := by rw [eM_75]; exact hD
                have hW : WOM cy K L M_75 := by rw [eM_75]; exact hW.up_98 i14 ⟨_, rfl⟩
                have hF : fr K L [97, 98] M M_75 := by rw [eM_75]; exact hF.up i14 (by decide)
                have hM_76 : M_75 z14 = .inl (cy 15, 24, .inr (.inl (vp_updL f73 ((nI v10w15) : Int32).toNatClampNeg f_72))) := by rw [eM_75]; exact va_up_self _ _ _
                have hM_77 : M_75 k2 = .inl (cy 15, 24, .inr (.inl (f_71))) := by rw [eM_75, va_up_ne _ _ (ik2.neT i14 (by decide))]; exact hM_70
                obtain ⟨f_78, ef_78⟩ : ∃ f : Nat → Int64, f = vp_updL f73 ((nI v10w15) : Int32).toNatClampNeg f_72 := ⟨_, rfl⟩
                rw [← ef_78] at hM_76
                clear ef_78
                refine lv_lload hx hb dX13_cut_102 (lv_at hl 2 rfl) ?_
                refine lv_aload_n hx hb dX13_cut_104 rfl (lv_at hl 6 rfl) ?_
                refine lv_iload hx hb dX13_cut_105 (lv_at hl 1 rfl) ?_
                refine pg_lald hx hb hK hP ik2.1 1 hM_77 rfl (inbN v10w15 24 (by omega) (by omega)) dX13_cut_107 ?_
                refine lv_topl (fun f_79 ef_79 => ?_)
                refine lv_lsub hx hb dX13_cut_108 ?_
                refine lv_topl (fun f_80 ef_80 => ?_)
                refine lv_lstore (lv' := [(8, .long f_80), (11, .long f_65), (10, .int (nI v10w15)), (6, .long v6w4), (0, .ref za), (1, .long k1), (3, .ref k2), (4, .int k3), (5, .ref k4)]) hx hb dX13_cut_109 hl (by decide) rfl (fun ls hl => ?_)
                refine lv_iinc (v := (nI (v10w15 + 1))) (lv' := [(10, .int (nI (v10w15 + 1))), (8, .long f_80), (11, .long f_65), (6, .long v6w4), (0, .ref za), (1, .long k1), (3, .ref k2), (4, .int k3), (5, .ref k4)]) hx hb dX13_cut_111 hl (k := 2) rfl (nI_1 v10w15) (by decide) rfl (fun ls hl => ?_)
                refine lv_goto (tgt := 57) hx hb dX13_cut_114 (by decide) ?_
                exact ih_13 f_80 (v10w15 + 1) M_75 H_74 _ _ (by omega) (by omega) hW hF hP hD hS (lv_sub hl [0, 1, 3, 4, 5, 6, 7, 8] rfl)
          exact key_12 (24 - 0 + 1) k1 0 M_6 H_7 _ _ (by omega) (by omega) hW hF hP hD hS (lv_sub hl [0, 1, 2, 3, 4, 5, 6, 7] rfl)
        · have hz := rfl (a := 0)
          have d_11 : v6w4 = 0 := lc_nef c_10
          refine lv_iconst (v := 0) hx hb dX13_cut_49 (by decide) ?_
          rw [hQ]
          exact W.zret (v := 0) hx hb hr rfl (fun t ht hW9 => ⟨⟨0, M_6, rfl, ⟨hW, hF, (Or.inr rfl)⟩, ⟨by rw [ht]; exact hP, hD⟩⟩, hS.F ht⟩) hS.2.2 dX13_cut_50
      · have hz := rfl (a := 0)
        have n_81 : ¬ (z16 ≤ v8w4) := fun q => c_8 ((iLE (a := z16) (b := v8w4) (by omega) (by omega)).mpr q)
        refine lv_aload_n hx hb dX13_cut_15 rfl (lv_at hl 4 rfl) ?_
        refine lv_iload hx hb dX13_cut_16 (lv_at hl 0 rfl) ?_
        refine lv_lconst (v := 0) hx hb dX13_cut_18 (by decide) ?_
        obtain ⟨f82, hM82⟩ := hW.open_97 ik2
        refine pg_last hx hb hK hP hD hS ik2.1 1 hM82 rfl (inbN v8w4 24 (by omega) (by omega)) dX13_cut_19 (fun H_83 locs hP hD hS => ?_)
        obtain ⟨M_84, eM_84⟩ : ∃ M1 : Hp, M1 = va_up M_6 k2 (.inl (cy 15, 24, .inr (.inl (vp_updL f82 ((nI v8w4) : Int32).toNatClampNeg 0)))) := ⟨_, rfl⟩
        have hP : va_P D vwCl ([(za, (b13_0 z0 z1 (nI z2) (nI z3) z4 z5 z6 z7 z8 z9 (nI z10) z11 z12 z13 z14 z15 (nI z16) z17 z18 z19))] ++ va_pl L M_84) H_83 := by rw [eM_84]; exact hP
        have hD : va_D A ([(za, (b13_0 z0 z1 (nI z2) (nI z3) z4 z5 z6 z7 z8 z9 (nI z10) z11 z12 z13 z14 z15 (nI z16) z17 z18 z19))] ++ va_pl L M_84) := by rw [eM_84]; exact hD
        have hW : WOM cy K L M_84 := by rw [eM_84]; exact hW.up_97 ik2 ⟨_, rfl⟩
        have hF : fr K L [97, 98] M M_84 := by rw [eM_84]; exact hF.up ik2 (by decide)
        have hM_85 : M_84 k2 = .inl (cy 15, 24, .inr (.inl (vp_updL f82 ((nI v8w4) : Int32).toNatClampNeg 0))) := by rw [eM_84]; exact va_up_self _ _ _
        obtain ⟨f_86, ef_86⟩ : ∃ f : Nat → Int64, f = vp_updL f82 ((nI v8w4) : Int32).toNatClampNeg 0 := ⟨_, rfl⟩
        rw [← ef_86] at hM_85
        clear ef_86
        refine lv_lload hx hb dX13_cut_20 (lv_at hl 1 rfl) ?_
        refine lv_aload_n hx hb dX13_cut_22 rfl (lv_at hl 2 rfl) ?_
        refine lv_iload hx hb dX13_cut_23 (lv_at hl 0 rfl) ?_
        refine lv_iload hx hb dX13_cut_25 (lv_at hl 5 rfl) ?_
        refine lv_aload hx hb dX13_cut_27 (lv_at hl 6 rfl) ?_
        have hPc : va_P D vwCl ([(za, (b13_0 z0 z1 (nI z2) (nI z3) z4 z5 z6 z7 z8 z9 (nI z10) z11 z12 z13 z14 z15 (nI z16) z17 z18 z19))] ++ va_pl L M_84) H_83 := hP
        have hDc : va_D A ([(za, (b13_0 z0 z1 (nI z2) (nI z3) z4 z5 z6 z7 z8 z9 (nI z10) z11 z12 z13 z14 z15 (nI z16) z17 z18 z19))] ++ va_pl L M_84) := hD
        have hFc : ∀ q, va_A ([(za, (b13_0 z0 z1 (nI z2) (nI z3) z4 z5 z6 z7 z8 z9 (nI z10) z11 z12 z13 z14 z15 (nI z16) z17 z18 z19))] ++ va_pl L M_84) H_83.size q → A q := pg_free hDc hS hA
        refine va_calli (va_runV (As := [.int (nI v8w4), .int k3, .ref k4]) (rest := [.long v6w4]) ⟨hx, hb, hml, hown, hg⟩ (r_X13_weighs l D cy K L M_84 H_83.size za z0 z1 z2 z3 z4 z5 z6 z7 z8 z9 z10 z11 z12 z13 z14 z15 z16 z17 z18 z19 v8w4 k3 k4  hW i1 b2 b3 i6 i7 i8 i9 b10 i11 i12 i13 i14 i15 b16 i17 i19 (by omega) ik4) (cwV 3 hg (gV wd_785 wd_786 wd_787 wd_717 wd_788) rfl rfl rfl (by decide +kernel) ⟨(Nat.le_trans (Nat.le_of_ble_eq_true rfl) hRf), (Nat.le_trans (Nat.le_of_ble_eq_true rfl) hRl)⟩) ⟨PG.blind, va_recv hK hP (ci := 13) (q0 := 0) rfl rfl, fun U hU hW => ⟨rfl, PG.at hPc hK hDc hN hU hW⟩⟩ rfl rfl hl.1 rfl (lv_room (Nat.le_of_ble_eq_true rfl)) dX13_cut_29 ⟨(Nat.le_trans (Nat.le_of_ble_eq_true rfl) hRc), (Nat.le_trans (Nat.le_of_ble_eq_true rfl) hRs)⟩) hS (fun q _ h => hFc q h) hFc (fun r_88 M_89 t H_87 locs ht hvm hw hB hz1 hk1 hS => ?_)
        have hp_90 := hw
        obtain ⟨hP1, hD1⟩ := hB
        rw [ht] at hP1
        have hP : va_P D vwCl ([(za, (b13_0 z0 z1 (nI z2) (nI z3) z4 z5 z6 z7 z8 z9 (nI z10) z11 z12 z13 z14 z15 (nI z16) z17 z18 z19))] ++ va_pl L M_84) H_87 := hP1
        have hD : va_D A ([(za, (b13_0 z0 z1 (nI z2) (nI z3) z4 z5 z6 z7 z8 z9 (nI z10) z11 z12 z13 z14 z15 (nI z16) z17 z18 z19))] ++ va_pl L M_84) := hD1.mono hFc
        refine lv_i2l hx hb dX13_cut_32 rfl ?_
        refine lv_topl (fun f_91 ef_91 => ?_)
        refine lv_ladd hx hb dX13_cut_33 ?_
        refine lv_topl (fun f_92 ef_92 => ?_)
        refine lv_lstore (lv' := [(6, .long f_92), (8, .int (nI v8w4)), (0, .ref za), (1, .long k1), (3, .ref k2), (4, .int k3), (5, .ref k4)]) hx hb dX13_cut_34 hl (by decide) rfl (fun ls hl => ?_)
        refine lv_iinc (v := (nI (v8w4 + 1))) (lv' := [(8, .int (nI (v8w4 + 1))), (6, .long f_92), (0, .ref za), (1, .long k1), (3, .ref k2), (4, .int k3), (5, .ref k4)]) hx hb dX13_cut_36 hl (k := 1) rfl (nI_1 v8w4) (by decide) rfl (fun ls hl => ?_)
        refine lv_goto (tgt := 6) hx hb dX13_cut_39 (by decide) ?_
        exact ih_2 f_92 (v8w4 + 1) M_84 H_87 _ _ (by omega) (by omega) hW hF hP hD hS (lv_sub hl [0, 1, 2, 3, 4, 5, 6] rfl)
  exact key_1 (24 - 0 + 1) 0 0 M s.heap _ _ (by omega) (by omega) hW hF hP hD hS (lv_sub hl [0, 1, 2, 3, 4, 5, 6] rfl)
set_option maxHeartbeats 4000000 in
set_option maxRecDepth 100000 in
theorem r_X13_cut_99 (l : Launch) (D : va_G) (cy : Nat → ClassId) (K : Kp) (L : List Nat) (M : Hp) (sz : Nat) (za : Nat) (z0 : Int32) (z1 : Nat) (z2 : Nat) (z3 : Nat) (z4 : Int32) (z5 : Int32) (z6 : Nat) (z7 : Nat) (z8 : Nat) (z9 : Nat) (z10 : Nat) (z11 : Nat) (z12 : Nat) (z13 : Nat) (z14 : Nat) (z15 : Nat) (z16 : Nat) (z17 : Nat) (z18 : Int32) (z19 : Nat) (k1 : Int64) (k2 : Nat) (k3 : Int32) (k4 : Nat) (hW : WOM cy K L M) (i1 : isk K L z1 23 8) (b2 : z2 ≤ 8) (b3 : z3 ≤ 40) (i6 : isk K L z6 47 40) (i7 : isk K L z7 48 40) (i8 : isk K L z8 49 8) (i9 : isk K L z9 50 8) (b10 : z10 ≤ 8) (i11 : isk K L z11 32 24) (i12 : isk K L z12 14 24) (i13 : isk K L z13 97 24) (i14 : isk K L z14 98 24) (i15 : isk K L z15 99 24) (b16 : z16 ≤ 24) (i17 : isk K L z17 14 24) (i19 : isk K L z19 15 25) (ik2 : isk K L k2 99 24) (ik4 : isk K L k4 12 0) : Met l yX13_cut (wsM yX13_cut cX13_cut 13 (some .boolean)) ({ frames := 2, cells := 0, slots := 0, locals := 46 }) (va_Pc [.ref za, .long k1, .ref k2, .int k3, .ref k4] (PG D cy [(za, (b13_0 z0 z1 (nI z2) (nI z3) z4 z5 z6 z7 z8 z9 (nI z10) z11 z12 z13 z14 z15 (nI z16) z17 z18 z19))] L M sz)) (va_Qi (fun (r : Int32) (M9 : Hp) => WOM cy K L M9 ∧ fr K L [99, 98] M M9 ∧ ((r = 1) ∨ (r = 0))) (fun M9 t => PQ D [(za, (b13_0 z0 z1 (nI z2) (nI z3) z4 z5 z6 z7 z8 z9 (nI z10) z11 z12 z13 z14 z15 (nI z16) z17 z18 z19))] L M9 (va_A ([(za, (b13_0 z0 z1 (nI z2) (nI z3) z4 z5 z6 z7 z8 z9 (nI z10) z11 z12 z13 z14 z15 (nI z16) z17 z18 z19))] ++ va_pl L M) sz) t) (va_A ([(za, (b13_0 z0 z1 (nI z2) (nI z3) z4 z5 z6 z7 z8 z9 (nI z10) z11 z12 z13 z14 z15 (nI z16) z17 z18 z19))] ++ va_pl L M) sz)) 0 0 (va_A ([(za, (b13_0 z0 z1 (nI z2) (nI z3) z4 z5 z6 z7 z8 z9 (nI z10) z11 z12 z13 z14 z15 (nI z16) z17 z18 z19))] ++ va_pl L M) sz) := by
  refine Met.ofW (cc := cX13_cut) (maxL := 13) (ret := (some .boolean)) (by decide) rfl ?_
  intro p e s m args below meth c s₁ B hml hv
  obtain ⟨rfl, hsz, hP, hK, hD0, hN⟩ := hv
  have hx := B.exec
  have hb := B.bytes
  have hr := B.returns
  have hts := atoms_spec (ws := (wsM yX13_cut cX13_cut 13 (some .boolean))) B.pre
  have hg : ∀ w ∈ lw_good, w.before _ s = true := fun w h => hts w (List.mem_cons_of_mem _ h)
  have hown : s.vm.findClass RX13 = some m.cls := findClass_of_methodNamed B.named
  have hlocks := B.notSynchronized
  subst hsz
  have hD := hD0.self (sz := s.heap.size)
  generalize hAe : va_A ([(za, (b13_0 z0 z1 (nI z2) (nI z3) z4 z5 z6 z7 z8 z9 (nI z10) z11 z12 z13 z14 z15 (nI z16) z17 z18 z19))] ++ va_pl L M) s.heap.size = A at hD ⊢
  have hA : ∀ q : Nat, s.heap.size ≤ q → A q := fun q h => by rw [← hAe]; exact Or.inr h
  have hS : va_S A s.heap s.heap [] := va_S.rf
  have hl := lv_entry ([.ref za, .long k1, .ref k2, .int k3, .ref k4]) (n := 13) (Nat.le_of_ble_eq_true rfl)
  rw [lg_entry_eq]
  generalize (lg_sl ([.ref za, .long k1, .ref k2, .int k3, .ref k4]) ++ List.replicate (13 - (lg_sl ([.ref za, .long k1, .ref k2, .int k3, .ref k4])).length) Slot.unset).toArray = ls at hl ⊢
  refine W.nameQ (fun Q hQ => ?_)
  refine W.nameR (fun R hR => ?_)
  have hRf : 2 ≤ R.frames := by rw [hR]; exact Nat.le_of_ble_eq_true rfl
  have hRl : 46 ≤ R.locals := by rw [hR]; exact Nat.le_of_ble_eq_true rfl
  have hRc : 0 ≤ R.cells := by rw [hR]; exact Nat.le_of_ble_eq_true rfl
  have hRs : 0 ≤ R.slots := by rw [hR]; exact Nat.le_of_ble_eq_true rfl
  have hF : fr K L [99, 98] M M := fr.rf
  have hl : lv_has ls 13 [(0, .ref za), (1, .long k1), (3, .ref k2), (4, .int k3), (5, .ref k4)] := hl
  refine lv_lconst (v := 0) hx hb dX13_cut_0 (by decide) ?_
  refine lv_lstore (lv' := [(6, .long 0), (0, .ref za), (1, .long k1), (3, .ref k2), (4, .int k3), (5, .ref k4)]) hx hb dX13_cut_1 hl (by decide) rfl (fun ls hl => ?_)
  refine lv_iconst (v := 0) hx hb dX13_cut_3 (by decide) ?_
  refine lv_istore (lv' := [(8, .int 0), (6, .long 0), (0, .ref za), (1, .long k1), (3, .ref k2), (4, .int k3), (5, .ref k4)]) hx hb dX13_cut_4 hl (by decide) rfl (fun ls hl => ?_)
  have key_1 : ∀ (fu_3 : Nat) (v6w4 : Int64) (v8w4 : Nat) (M_6 : Hp) (H_7 : Heap) (locs : List Loc) (ls : Array Slot), 24 - v8w4 < fu_3 → v8w4 ≤ 24 → WOM cy K L M_6 → fr K L [99, 98] M M_6 → va_P D vwCl ([(za, (b13_0 z0 z1 (nI z2) (nI z3) z4 z5 z6 z7 z8 z9 (nI z10) z11 z12 z13 z14 z15 (nI z16) z17 z18 z19))] ++ va_pl L M_6) H_7 → va_D A ([(za, (b13_0 z0 z1 (nI z2) (nI z3) z4 z5 z6 z7 z8 z9 (nI z10) z11 z12 z13 z14 z15 (nI z16) z17 z18 z19))] ++ va_pl L M_6) → va_S A s.heap H_7 locs → lv_has ls 13 [(8, .int (nI v8w4)), (6, .long v6w4), (0, .ref za), (1, .long k1), (3, .ref k2), (4, .int k3), (5, .ref k4)] → W p l e R s m ([.ref za, .long k1, .ref k2, .int k3, .ref k4] : List Value).toArray below meth c H_7 locs 0 0 Q (F0 m 6 ls []) := by
    intro fu_3
    induction fu_3 with
    | zero => intro v6w4 v8w4 M_6 H_7 locs ls h; exact absurd h (Nat.not_lt_zero _)
    | succ fu_3 ih_2 =>
      intro v6w4 v8w4 M_6 H_7 locs ls hfu hx_5 hW hF hP hD hS hl
      refine lv_iload hx hb dX13_cut_6 (lv_at hl 0 rfl) ?_
      refine lv_aload_n hx hb dX13_cut_8 rfl (lv_at hl 2 rfl) ?_
      refine va_get (D := D) (ci := 13) (v := .int (nI z16)) (C := RX13) (T := TX13) (N := 20) hx hb hg inG13 hown hK hP 0 rfl rfl 16 (by decide) (hg _ wd_769) (fun _ h9 => h9) rfl dX13_cut_9 ?_
      refine lv_icmp_ge (tgt := 42) hx hb dX13_cut_12 (by decide) (fun c_8 => ?_) (fun c_8 => ?_)
      · have hz := rfl (a := 0)
        have n_9 : z16 ≤ v8w4 := (iLE (a := z16) (b := v8w4) (by omega) (by omega)).mp c_8
        refine lv_lload hx hb dX13_cut_42 (lv_at hl 1 rfl) ?_
        refine lv_lconst (v := 0) hx hb dX13_cut_44 (by decide) ?_
        refine W.lcmp hx hb dX13_cut_45 ?_
        refine lv_if_ne (tgt := 51) hx hb dX13_cut_46 (by decide) (fun c_10 => ?_) (fun c_10 => ?_)
        · have hz := rfl (a := 0)
          have d_11 : ¬ v6w4 = 0 := lc_net c_10
          refine lv_lload_n hx hb dX13_cut_51 rfl (lv_at hl 3 rfl) ?_
          refine lv_lstore (lv' := [(8, .long k1), (6, .long v6w4), (0, .ref za), (1, .long k1), (3, .ref k2), (4, .int k3), (5, .ref k4)]) hx hb dX13_cut_52 hl (by decide) rfl (fun ls hl => ?_)
          refine lv_iconst (v := 0) hx hb dX13_cut_54 (by decide) ?_
          refine lv_istore (lv' := [(10, .int 0), (8, .long k1), (6, .long v6w4), (0, .ref za), (1, .long k1), (3, .ref k2), (4, .int k3), (5, .ref k4)]) hx hb dX13_cut_55 hl (by decide) rfl (fun ls hl => ?_)
          have key_12 : ∀ (fu_14 : Nat) (v8w15 : Int64) (v10w15 : Nat) (M_17 : Hp) (H_18 : Heap) (locs : List Loc) (ls : Array Slot), 24 - v10w15 < fu_14 → v10w15 ≤ 24 → WOM cy K L M_17 → fr K L [99, 98] M M_17 → va_P D vwCl ([(za, (b13_0 z0 z1 (nI z2) (nI z3) z4 z5 z6 z7 z8 z9 (nI z10) z11 z12 z13 z14 z15 (nI z16) z17 z18 z19))] ++ va_pl L M_17) H_18 → va_D A ([(za, (b13_0 z0 z1 (nI z2) (nI z3) z4 z5 z6 z7 z8 z9 (nI z10) z11 z12 z13 z14 z15 (nI z16) z17 z18 z19))] ++ va_pl L M_17) → va_S A s.heap H_18 locs → lv_has ls 13 [(10, .int (nI v10w15)), (8, .long v8w15), (6, .long v6w4), (0, .ref za), (1, .long k1), (3, .ref k2), (4, .int k3), (5, .ref k4)] → W p l e R s m ([.ref za, .long k1, .ref k2, .int k3, .ref k4] : List Value).toArray below meth c H_18 locs 0 0 Q (F0 m 57 ls []) := by
            intro fu_14
            induction fu_14 with
            | zero => intro v8w15 v10w15 M_17 H_18 locs ls h; exact absurd h (Nat.not_lt_zero _)
            | succ fu_14 ih_13 =>
              intro v8w15 v10w15 M_17 H_18 locs ls hfu hx_16 hW hF hP hD hS hl
              refine lv_iload hx hb dX13_cut_57 (lv_at hl 0 rfl) ?_
              refine lv_aload_n hx hb dX13_cut_59 rfl (lv_at hl 3 rfl) ?_
              refine va_get (D := D) (ci := 13) (v := .int (nI z16)) (C := RX13) (T := TX13) (N := 20) hx hb hg inG13 hown hK hP 0 rfl rfl 16 (by decide) (hg _ wd_769) (fun _ h9 => h9) rfl dX13_cut_60 ?_
              refine lv_icmp_ge (tgt := 117) hx hb dX13_cut_63 (by decide) (fun c_19 => ?_) (fun c_19 => ?_)
              · have hz := rfl (a := 0)
                have n_20 : z16 ≤ v10w15 := (iLE (a := z16) (b := v10w15) (by omega) (by omega)).mp c_19
                have hl : lv_has ls 13 [(8, .long v8w15), (6, .long v6w4), (0, .ref za), (1, .long k1), (3, .ref k2), (4, .int k3), (5, .ref k4)] := lv_sub hl [1, 2, 3, 4, 5, 6, 7] rfl
                have key_21 : ∀ (fu_23 : Nat) (v8w24 : Int64) (M_25 : Hp) (H_26 : Heap) (locs : List Loc) (ls : Array Slot), v8w24.toInt.toNat < fu_23 → WOM cy K L M_25 → fr K L [99, 98] M M_25 → va_P D vwCl ([(za, (b13_0 z0 z1 (nI z2) (nI z3) z4 z5 z6 z7 z8 z9 (nI z10) z11 z12 z13 z14 z15 (nI z16) z17 z18 z19))] ++ va_pl L M_25) H_26 → va_D A ([(za, (b13_0 z0 z1 (nI z2) (nI z3) z4 z5 z6 z7 z8 z9 (nI z10) z11 z12 z13 z14 z15 (nI z16) z17 z18 z19))] ++ va_pl L M_25) → va_S A s.heap H_26 locs → lv_has ls 13 [(8, .long v8w24), (6, .long v6w4), (0, .ref za), (1, .long k1), (3, .ref k2), (4, .int k3), (5, .ref k4)] → W p l e R s m ([.ref za, .long k1, .ref k2, .int k3, .ref k4] : List Value).toArray below meth c H_26 locs 0 0 Q (F0 m 117 ls []) := by
                  intro fu_23
                  induction fu_23 with
                  | zero => intro v8w24 M_25 H_26 locs ls h; exact absurd h (Nat.not_lt_zero _)
                  | succ fu_23 ih_22 =>
                    intro v8w24 M_25 H_26 locs ls hfu hW hF hP hD hS hl
                    refine lv_lload hx hb dX13_cut_117 (lv_at hl 0 rfl) ?_
                    refine lv_lconst (v := 0) hx hb dX13_cut_119 (by decide) ?_
                    refine W.lcmp hx hb dX13_cut_120 ?_
                    refine lv_if_le (tgt := 194) hx hb dX13_cut_121 (by decide) (fun c_27 => ?_) (fun c_27 => ?_)
                    · have hz := rfl (a := 0)
                      have d_28 : v8w24 ≤ 0 := lc_let c_27
                      refine lv_iconst (v := 1) hx hb dX13_cut_194 (by decide) ?_
                      rw [hQ]
                      exact W.zret (v := 1) hx hb hr rfl (fun t ht hW9 => ⟨⟨1, M_25, rfl, ⟨hW, hF, (Or.inl rfl)⟩, ⟨by rw [ht]; exact hP, hD⟩⟩, hS.F ht⟩) hS.2.2 dX13_cut_195
                    · have hz := rfl (a := 0)
                      have d_28 : ¬ v8w24 ≤ 0 := lc_lef c_27
                      refine lv_iconst (v := 0) hx hb dX13_cut_124 (by decide) ?_
                      refine lv_istore (lv' := [(10, .int 0), (8, .long v8w24), (6, .long v6w4), (0, .ref za), (1, .long k1), (3, .ref k2), (4, .int k3), (5, .ref k4)]) hx hb dX13_cut_125 hl (by decide) rfl (fun ls hl => ?_)
                      refine lv_iconst (v := 1) hx hb dX13_cut_127 (by decide) ?_
                      refine lv_istore (lv' := [(11, .int 1), (10, .int 0), (8, .long v8w24), (6, .long v6w4), (0, .ref za), (1, .long k1), (3, .ref k2), (4, .int k3), (5, .ref k4)]) hx hb dX13_cut_128 hl (by decide) rfl (fun ls hl => ?_)
                      have key_29 : ∀ (fu_31 : Nat) (v10w32 : Nat) (v11w32 : Nat) (M_35 : Hp) (H_36 : Heap) (locs : List Loc) (ls : Array Slot), 24 - v11w32 < fu_31 → v10w32 < 24 → v11w32 ≤ 24 → WOM cy K L M_35 → fr K L [99, 98] M M_35 → va_P D vwCl ([(za, (b13_0 z0 z1 (nI z2) (nI z3) z4 z5 z6 z7 z8 z9 (nI z10) z11 z12 z13 z14 z15 (nI z16) z17 z18 z19))] ++ va_pl L M_35) H_36 → va_D A ([(za, (b13_0 z0 z1 (nI z2) (nI z3) z4 z5 z6 z7 z8 z9 (nI z10) z11 z12 z13 z14 z15 (nI z16) z17 z18 z19))] ++ va_pl L M_35) → va_S A s.heap H_36 locs → lv_has ls 13 [(11, .int (nI v11w32)), (10, .int (nI v10w32)), (8, .long v8w24), (6, .long v6w4), (0, .ref za), (1, .long k1), (3, .ref k2), (4, .int k3), (5, .ref k4)] → W p l e R s m ([.ref za, .long k1, .ref k2, .int k3, .ref k4] : List Value).toArray below meth c H_36 locs 0 0 Q (F0 m 130 ls []) := by
                        intro fu_31
                        induction fu_31 with
                        | zero => intro v10w32 v11w32 M_35 H_36 locs ls h; exact absurd h (Nat.not_lt_zero _)
                        | succ fu_31 ih_30 =>
                          intro v10w32 v11w32 M_35 H_36 locs ls hfu hx_33 hx_34 hW hF hP hD hS hl
                          refine lv_iload hx hb dX13_cut_130 (lv_at hl 0 rfl) ?_
                          refine lv_aload_n hx hb dX13_cut_132 rfl (lv_at hl 4 rfl) ?_
                          refine va_get (D := D) (ci := 13) (v := .int (nI z16)) (C := RX13) (T := TX13) (N := 20) hx hb hg inG13 hown hK hP 0 rfl rfl 16 (by decide) (hg _ wd_769) (fun _ h9 => h9) rfl dX13_cut_133 ?_
                          refine lv_icmp_ge (tgt := 167) hx hb dX13_cut_136 (by decide) (fun c_37 => ?_) (fun c_37 => ?_)
                          · have hz := rfl (a := 0)
                            have n_38 : z16 ≤ v11w32 := (iLE (a := z16) (b := v11w32) (by omega) (by omega)).mp c_37
                            refine lv_aload_n hx hb dX13_cut_167 rfl (lv_at hl 6 rfl) ?_
                            refine lv_iload hx hb dX13_cut_168 (lv_at hl 1 rfl) ?_
                            refine lv_dup2_11 hx hb dX13_cut_170 rfl rfl ?_
                            obtain ⟨f39, hM39⟩ := hW.open_99 ik2
                            refine pg_lald hx hb hK hP ik2.1 1 hM39 rfl (inbN v10w32 24 (by omega) (by omega)) dX13_cut_171 ?_
                            refine lv_topl (fun f_40 ef_40 => ?_)
                            refine lv_lconst (v := 1) hx hb dX13_cut_172 (by decide) ?_
                            refine lv_ladd hx hb dX13_cut_173 ?_
                            refine lv_topl (fun f_41 ef_41 => ?_)
                            refine pg_last hx hb hK hP hD hS ik2.1 1 hM39 rfl (inbN v10w32 24 (by omega) (by omega)) dX13_cut_174 (fun H_42 locs hP hD hS => ?_)
                            obtain ⟨M_43, eM_43⟩ : ∃ M1 : Hp, M1 = va_up M_35 k2 (.inl (cy 15, 24, .inr (.inl (vp_updL f39 ((nI v10w32) : Int32).toNatClampNeg f_41)))) := ⟨_, rfl⟩
                            have hP : va_P D vwCl ([(za, (b13_0 z0 z1 (nI z2) (nI z3) z4 z5 z6 z7 z8 z9 (nI z10) z11 z12 z13 z14 z15 (nI z16) z17 z18 z19))] ++ va_pl L M_43) H_42 := by rw [eM_43]; exact hP
                            have hD : va_D A ([(za, (b13_0 z0 z1 (nI z2) (nI z3) z4 z5 z6 z7 z8 z9 (nI z10) z11 z12 z13 z14 z15 (nI z16) z17 z18 z19))] ++ va_pl L M_43) := by rw [eM_43]; exact hD
                            have hW : WOM cy K L M_43 := by rw [eM_43]; exact hW.up_99 ik2 ⟨_, rfl⟩
                            have hF : fr K L [99, 98] M M_43 := by rw [eM_43]; exact hF.up ik2 (by decide)
                            have hM_44 : M_43 k2 = .inl (cy 15, 24, .inr (.inl (vp_updL f39 ((nI v10w32) : Int32).toNatClampNeg f_41))) := by rw [eM_43]; exact va_up_self _ _ _
                            obtain ⟨f_45, ef_45⟩ : ∃ f : Nat → Int64, f = vp_updL f39 ((nI v10w32) : Int32).toNatClampNeg f_41 := ⟨_, rfl⟩
                            rw [← ef_45] at hM_44
                            clear ef_45
                            refine lv_aload_n hx hb dX13_cut_175 rfl (lv_at hl 4 rfl) ?_
                            refine va_get (D := D) (ci := 13) (v := .ref z14) (C := RX13) (T := TX13) (N := 20) hx hb hg inG13 hown hK hP 0 rfl rfl 14 (by decide) (hg _ wd_783) (fun _ h9 => h9) rfl dX13_cut_176 ?_
                            refine lv_iload hx hb dX13_cut_179 (lv_at hl 1 rfl) ?_
                            refine lv_ldc2 (v := (-1)) hx hb hown (hg _ wd_784) dX13_cut_181 ?_
                            obtain ⟨f46, hM46⟩ := hW.open_98 i14
                            refine pg_last hx hb hK hP hD hS i14.1 1 hM46 rfl (inbN v10w32 24 (by omega) (by omega)) dX13_cut_184 (fun H_47 locs hP hD hS => ?_)
                            obtain ⟨M_48, eM_48⟩ : ∃ M1 : Hp, M1 = va_up M_43 z14 (.inl (cy 15, 24, .inr (.inl (vp_updL f46 ((nI v10w32) : Int32).toNatClampNeg (-1))))) := ⟨_, rfl⟩
                            have hP : va_P D vwCl ([(za, (b13_0 z0 z1 (nI z2) (nI z3) z4 z5 z6 z7 z8 z9 (nI z10) z11 z12 z13 z14 z15 (nI z16) z17 z18 z19))] ++ va_pl L M_48) H_47 := by rw [eM_48]; exact hP
                            have hD : va_D A ([(za, (b13_0 z0 z1 (nI z2) (nI z3) z4 z5 z6 z7 z8 z9 (nI z10) z11 z12 z13 z14 z15 (nI z16) z17 z18 z19))] ++ va_pl L M_48) := by rw [eM_48]; exact hD
                            have hW : WOM cy K L M_48 := by rw [eM_48]; exact hW.up_98 i14 ⟨_, rfl⟩
                            have hF : fr K L [99, 98] M M_48 := by rw [eM_48]; exact hF.up i14 (by decide)
                            have hM_49 : M_48 z14 = .inl (cy 15, 24, .inr (.inl (vp_updL f46 ((nI v10w32) : Int32).toNatClampNeg (-1)))) := by rw [eM_48]; exact va_up_self _ _ _
                            have hM_50 : M_48 k2 = .inl (cy 15, 24, .inr (.inl (f_45))) := by rw [eM_48, va_up_ne _ _ (ik2.neT i14 (by decide))]; exact hM_44
                            obtain ⟨f_51, ef_51⟩ : ∃ f : Nat → Int64, f = vp_updL f46 ((nI v10w32) : Int32).toNatClampNeg (-1) := ⟨_, rfl⟩
                            rw [← ef_51] at hM_49
                            clear ef_51
                            refine lv_lload hx hb dX13_cut_185 (lv_at hl 2 rfl) ?_
                            refine lv_lconst (v := 1) hx hb dX13_cut_187 (by decide) ?_
                            refine lv_lsub hx hb dX13_cut_188 ?_
                            refine lv_topl (fun f_52 ef_52 => ?_)
                            refine lv_lstore (lv' := [(8, .long f_52), (11, .int (nI v11w32)), (10, .int (nI v10w32)), (6, .long v6w4), (0, .ref za), (1, .long k1), (3, .ref k2), (4, .int k3), (5, .ref k4)]) hx hb dX13_cut_189 hl (by decide) rfl (fun ls hl => ?_)
                            refine lv_goto (tgt := 117) hx hb dX13_cut_191 (by decide) ?_
                            exact ih_22 f_52 M_48 H_47 _ _ (by have h9 := l1dec ef_52 d_28; omega) hW hF hP hD hS (lv_sub hl [0, 3, 4, 5, 6, 7, 8] rfl)
                          · have hz := rfl (a := 0)
                            have n_53 : ¬ (z16 ≤ v11w32) := fun q => c_37 ((iLE (a := z16) (b := v11w32) (by omega) (by omega)).mpr q)
                            refine lv_aload_n hx hb dX13_cut_139 rfl (lv_at hl 4 rfl) ?_
                            refine va_get (D := D) (ci := 13) (v := .ref z14) (C := RX13) (T := TX13) (N := 20) hx hb hg inG13 hown hK hP 0 rfl rfl 14 (by decide) (hg _ wd_783) (fun _ h9 => h9) rfl dX13_cut_140 ?_
                            refine lv_iload hx hb dX13_cut_143 (lv_at hl 0 rfl) ?_
                            obtain ⟨f54, hM54⟩ := hW.open_98 i14
                            refine pg_lald hx hb hK hP i14.1 1 hM54 rfl (inbN v11w32 24 (by omega) (by omega)) dX13_cut_145 ?_
                            refine lv_topl (fun f_55 ef_55 => ?_)
                            refine lv_aload_n hx hb dX13_cut_146 rfl (lv_at hl 4 rfl) ?_
                            refine va_get (D := D) (ci := 13) (v := .ref z14) (C := RX13) (T := TX13) (N := 20) hx hb hg inG13 hown hK hP 0 rfl rfl 14 (by decide) (hg _ wd_783) (fun _ h9 => h9) rfl dX13_cut_147 ?_
                            refine lv_iload hx hb dX13_cut_150 (lv_at hl 1 rfl) ?_
                            refine pg_lald hx hb hK hP i14.1 1 hM54 rfl (inbN v10w32 24 (by omega) (by omega)) dX13_cut_152 ?_
                            refine lv_topl (fun f_56 ef_56 => ?_)
                            refine W.lcmp hx hb dX13_cut_153 ?_
                            refine lv_if_le (tgt := 161) hx hb dX13_cut_154 (by decide) (fun c_57 => ?_) (fun c_57 => ?_)
                            · have hz := rfl (a := 0)
                              have d_58 : f_55 ≤ f_56 := lc_let c_57
                              refine lv_iinc (v := (nI (v11w32 + 1))) (lv' := [(11, .int (nI (v11w32 + 1))), (10, .int (nI v10w32)), (8, .long v8w24), (6, .long v6w4), (0, .ref za), (1, .long k1), (3, .ref k2), (4, .int k3), (5, .ref k4)]) hx hb dX13_cut_161 hl (k := 0) rfl (nI_1 v11w32) (by decide) rfl (fun ls hl => ?_)
                              refine lv_goto (tgt := 130) hx hb dX13_cut_164 (by decide) ?_
                              exact ih_30 v10w32 (v11w32 + 1) M_35 H_36 _ _ (by omega) (by omega) (by omega) hW hF hP hD hS (lv_sub hl [0, 1, 2, 3, 4, 5, 6, 7, 8] rfl)
                            · have hz := rfl (a := 0)
                              have d_58 : ¬ f_55 ≤ f_56 := lc_lef c_57
                              refine lv_iload hx hb dX13_cut_157 (lv_at hl 0 rfl) ?_
                              refine lv_istore (lv' := [(10, .int (nI v11w32)), (11, .int (nI v11w32)), (8, .long v8w24), (6, .long v6w4), (0, .ref za), (1, .long k1), (3, .ref k2), (4, .int k3), (5, .ref k4)]) hx hb dX13_cut_159 hl (by decide) rfl (fun ls hl => ?_)
                              refine lv_iinc (v := (nI (v11w32 + 1))) (lv' := [(11, .int (nI (v11w32 + 1))), (10, .int (nI v11w32)), (8, .long v8w24), (6, .long v6w4), (0, .ref za), (1, .long k1), (3, .ref k2), (4, .int k3), (5, .ref k4)]) hx hb dX13_cut_161 hl (k := 1) rfl (nI_1 v11w32) (by decide) rfl (fun ls hl => ?_)
                              refine lv_goto (tgt := 130) hx hb dX13_cut_164 (by decide) ?_
                              exact ih_30 v11w32 (v11w32 + 1) M_35 H_36 _ _ (by omega) (by omega) (by omega) hW hF hP hD hS (lv_sub hl [0, 1, 2, 3, 4, 5, 6, 7, 8] rfl)
                      exact key_29 (24 - 1 + 1) 0 1 M_25 H_26 _ _ (by omega) (by omega) (by omega) hW hF hP hD hS (lv_sub hl [0, 1, 2, 3, 4, 5, 6, 7, 8] rfl)
                exact key_21 (v8w15.toInt.toNat + 1) v8w15 M_17 H_18 _ _ (by omega) hW hF hP hD hS (lv_sub hl [0, 1, 2, 3, 4, 5, 6] rfl)
              · have hz := rfl (a := 0)
                have n_59 : ¬ (z16 ≤ v10w15) := fun q => c_19 ((iLE (a := z16) (b := v10w15) (by omega) (by omega)).mpr q)
                refine lv_lload_n hx hb dX13_cut_66 rfl (lv_at hl 4 rfl) ?_
                refine lv_aload_n hx hb dX13_cut_67 rfl (lv_at hl 3 rfl) ?_
                refine lv_iload hx hb dX13_cut_68 (lv_at hl 0 rfl) ?_
                refine lv_iload hx hb dX13_cut_70 (lv_at hl 6 rfl) ?_
                refine lv_aload hx hb dX13_cut_72 (lv_at hl 7 rfl) ?_
                have hPc : va_P D vwCl ([(za, (b13_0 z0 z1 (nI z2) (nI z3) z4 z5 z6 z7 z8 z9 (nI z10) z11 z12 z13 z14 z15 (nI z16) z17 z18 z19))] ++ va_pl L M_17) H_18 := hP
                have hDc : va_D A ([(za, (b13_0 z0 z1 (nI z2) (nI z3) z4 z5 z6 z7 z8 z9 (nI z10) z11 z12 z13 z14 z15 (nI z16) z17 z18 z19))] ++ va_pl L M_17) := hD
                have hFc : ∀ q, va_A ([(za, (b13_0 z0 z1 (nI z2) (nI z3) z4 z5 z6 z7 z8 z9 (nI z10) z11 z12 z13 z14 z15 (nI z16) z17 z18 z19))] ++ va_pl L M_17) H_18.size q → A q := pg_free hDc hS hA
                refine va_calli (va_runV (As := [.int (nI v10w15), .int k3, .ref k4]) (rest := [.long k1]) ⟨hx, hb, hml, hown, hg⟩ (r_X13_weighs l D cy K L M_17 H_18.size za z0 z1 z2 z3 z4 z5 z6 z7 z8 z9 z10 z11 z12 z13 z14 z15 z16 z17 z18 z19 v10w15 k3 k4  hW i1 b2 b3 i6 i7 i8 i9 b10 i11 i12 i13 i14 i15 b16 i17 i19 (by omega) ik4) (cwV 3 hg (gV wd_785 wd_786 wd_787 wd_717 wd_788) rfl rfl rfl (by decide +kernel) ⟨(Nat.le_trans (Nat.le_of_ble_eq_true rfl) hRf), (Nat.le_trans (Nat.le_of_ble_eq_true rfl) hRl)⟩) ⟨PG.blind, va_recv hK hP (ci := 13) (q0 := 0) rfl rfl, fun U hU hW => ⟨rfl, PG.at hPc hK hDc hN hU hW⟩⟩ rfl rfl hl.1 rfl (lv_room (Nat.le_of_ble_eq_true rfl)) dX13_cut_74 ⟨(Nat.le_trans (Nat.le_of_ble_eq_true rfl) hRc), (Nat.le_trans (Nat.le_of_ble_eq_true rfl) hRs)⟩) hS (fun q _ h => hFc q h) hFc (fun r_61 M_62 t H_60 locs ht hvm hw hB hz1 hk1 hS => ?_)
                have hp_63 := hw
                obtain ⟨hP1, hD1⟩ := hB
                rw [ht] at hP1
                have hP : va_P D vwCl ([(za, (b13_0 z0 z1 (nI z2) (nI z3) z4 z5 z6 z7 z8 z9 (nI z10) z11 z12 z13 z14 z15 (nI z16) z17 z18 z19))] ++ va_pl L M_17) H_60 := hP1
                have hD : va_D A ([(za, (b13_0 z0 z1 (nI z2) (nI z3) z4 z5 z6 z7 z8 z9 (nI z10) z11 z12 z13 z14 z15 (nI z16) z17 z18 z19))] ++ va_pl L M_17) := hD1.mono hFc
                refine lv_i2l hx hb dX13_cut_77 rfl ?_
                refine lv_topl (fun f_64 ef_64 => ?_)
                refine lv_lmul hx hb dX13_cut_78 ?_
                refine lv_topl (fun f_65 ef_65 => ?_)
                refine lv_lstore (lv' := [(11, .long f_65), (10, .int (nI v10w15)), (8, .long v8w15), (6, .long v6w4), (0, .ref za), (1, .long k1), (3, .ref k2), (4, .int k3), (5, .ref k4)]) hx hb dX13_cut_79 hl (by decide) rfl (fun ls hl => ?_)
                refine lv_aload_n hx hb dX13_cut_81 rfl (lv_at hl 6 rfl) ?_
                refine lv_iload hx hb dX13_cut_82 (lv_at hl 1 rfl) ?_
                refine lv_lload hx hb dX13_cut_84 (lv_at hl 0 rfl) ?_
                refine lv_lload hx hb dX13_cut_86 (lv_at hl 3 rfl) ?_
                refine lv_ldiv hx hb dX13_cut_88 d_11 ?_
                refine lv_topl (fun f_66 ef_66 => ?_)
                obtain ⟨f67, hM67⟩ := hW.open_99 ik2
                refine pg_last hx hb hK hP hD hS ik2.1 1 hM67 rfl (inbN v10w15 24 (by omega) (by omega)) dX13_cut_89 (fun H_68 locs hP hD hS => ?_)
                obtain ⟨M_69, eM_69⟩ : ∃ M1 : Hp, M1 = va_up M_17 k2 (.inl (cy 15, 24, .inr (.inl (vp_updL f67 ((nI v10w15) : Int32).toNatClampNeg f_66)))) := ⟨_, rfl⟩
                have hP : va_P D vwCl ([(za, (b13_0 z0 z1 (nI z2) (nI z3) z4 z5 z6 z7 z8 z9 (nI z10) z11 z12 z13 z14 z15 (nI z16) z17 z18 z19))] ++ va_pl L M_69) H_68 := by rw [eM_69]; exact hP
                have hD : va_D A ([(za, (b13_0 z0 z1 (nI z2) (nI z3) z4 z5 z6 z7 z8 z9 (nI z10) z11 z12 z13 z14 z15 (nI z16) z17 z18 z19))] ++ va_pl L M_69) := by rw [eM_69]; exact hD
                have hW : WOM cy K L M_69 := by rw [eM_69]; exact hW.up_99 ik2 ⟨_, rfl⟩
                have hF : fr K L [99, 98] M M_69 := by rw [eM_69]; exact hF.up ik2 (by decide)
                have hM_70 : M_69 k2 = .inl (cy 15, 24, .inr (.inl (vp_updL f67 ((nI v10w15) : Int32).toNatClampNeg f_66))) := by rw [eM_69]; exact va_up_self _ _ _
                obtain ⟨f_71, ef_71⟩ : ∃ f : Nat → Int64, f = vp_updL f67 ((nI v10w15) : Int32).toNatClampNeg f_66 := ⟨_, rfl⟩
                rw [← ef_71] at hM_70
                clear ef_71
                refine lv_aload_n hx hb dX13_cut_90 rfl (lv_at hl 4 rfl) ?_
                refine va_get (D := D) (ci := 13) (v := .ref z14) (C := RX13) (T := TX13) (N := 20) hx hb hg inG13 hown hK hP 0 rfl rfl 14 (by decide) (hg _ wd_783) (fun _ h9 => h9) rfl dX13_cut_91 ?_
                refine lv_iload hx hb dX13_cut_94 (lv_at hl 1 rfl) ?_
                refine lv_lload hx hb dX13_cut_96 (lv_at hl 0 rfl) ?_
                refine lv_lload hx hb dX13_cut_98 (lv_at hl 3 rfl) ?_
                refine lv_lrem hx hb dX13_cut_100 d_11 ?_
                refine lv_topl (fun f_72 ef_72 => ?_)
                obtain ⟨f73, hM73⟩ := hW.open_98 i14
                refine pg_last hx hb hK hP hD hS i14.1 1 hM73 rfl (inbN v10w15 24 (by omega) (by omega)) dX13_cut_101 (fun H_74 locs hP hD hS => ?_)
                obtain ⟨M_75, eM_75⟩ : ∃ M1 : Hp, M1 = va_up M_69 z14 (.inl (cy 15, 24, .inr (.inl (vp_updL f73 ((nI v10w15) : Int32).toNatClampNeg f_72)))) := ⟨_, rfl⟩
                have hP : va_P D vwCl ([(za, (b13_0 z0 z1 (nI z2) (nI z3) z4 z5 z6 z7 z8 z9 (nI z10) z11 z12 z13 z14 z15 (nI z16) z17 z18 z19))] ++ va_pl L M_75) H_74 := by rw [eM_75]; exact hP
                have hD : va_D A ([(za, (b13_0 z0 z1 (nI z2) (nI z3) z4 z5 z6 z7 z8 z9 (nI z10) z11 z12 z13 z14 z15 (nI z16) z17 z18 z19))] ++ va_pl L M_75) := by rw [eM_75]; exact hD
                have hW : WOM cy K L M_75 := by rw [eM_75]; exact hW.up_98 i14 ⟨_, rfl⟩
                have hF : fr K L [99, 98] M M_75 := by rw [eM_75]; exact hF.up i14 (by decide)
                have hM_76 : M_75 z14 = .inl (cy 15, 24, .inr (.inl (vp_updL f73 ((nI v10w15) : Int32).toNatClampNeg f_72))) := by rw [eM_75]; exact va_up_self _ _ _
                have hM_77 : M_75 k2 = .inl (cy 15, 24, .inr (.inl (f_71))) := by rw [eM_75, va_up_ne _ _ (ik2.neT i14 (by decide))]; exact hM_70
                obtain ⟨f_78, ef_78⟩ : ∃ f : Nat → Int64, f = vp_updL f73 ((nI v10w15) : Int32).toNatClampNeg f_72 := ⟨_, rfl⟩
                rw [← ef_78] at hM_76
                clear ef_78
                refine lv_lload hx hb dX13_cut_102 (lv_at hl 2 rfl) ?_
                refine lv_aload_n hx hb dX13_cut_104 rfl (lv_at hl 6 rfl) ?_
                refine lv_iload hx hb dX13_cut_105 (lv_at hl 1 rfl) ?_
                refine pg_lald hx hb hK hP ik2.1 1 hM_77 rfl (inbN v10w15 24 (by omega) (by omega)) dX13_cut_107 ?_
                refine lv_topl (fun f_79 ef_79 => ?_)
                refine lv_lsub hx hb dX13_cut_108 ?_
                refine lv_topl (fun f_80 ef_80 => ?_)
                refine lv_lstore (lv' := [(8, .long f_80), (11, .long f_65), (10, .int (nI v10w15)), (6, .long v6w4), (0, .ref za), (1, .long k1), (3, .ref k2), (4, .int k3), (5, .ref k4)]) hx hb dX13_cut_109 hl (by decide) rfl (fun ls hl => ?_)
                refine lv_iinc (v := (nI (v10w15 + 1))) (lv' := [(10, .int (nI (v10w15 + 1))), (8, .long f_80), (11, .long f_65), (6, .long v6w4), (0, .ref za), (1, .long k1), (3, .ref k2), (4, .int k3), (5, .ref k4)]) hx hb dX13_cut_111 hl (k := 2) rfl (nI_1 v10w15) (by decide) rfl (fun ls hl => ?_)
                refine lv_goto (tgt := 57) hx hb dX13_cut_114 (by decide) ?_
                exact ih_13 f_80 (v10w15 + 1) M_75 H_74 _ _ (by omega) (by omega) hW hF hP hD hS (lv_sub hl [0, 1, 3, 4, 5, 6, 7, 8] rfl)
          exact key_12 (24 - 0 + 1) k1 0 M_6 H_7 _ _ (by omega) (by omega) hW hF hP hD hS (lv_sub hl [0, 1, 2, 3, 4, 5, 6, 7] rfl)
        · have hz := rfl (a := 0)
          have d_11 : v6w4 = 0 := lc_nef c_10
          refine lv_iconst (v := 0) hx hb dX13_cut_49 (by decide) ?_
          rw [hQ]
          exact W.zret (v := 0) hx hb hr rfl (fun t ht hW9 => ⟨⟨0, M_6, rfl, ⟨hW, hF, (Or.inr rfl)⟩, ⟨by rw [ht]; exact hP, hD⟩⟩, hS.F ht⟩) hS.2.2 dX13_cut_50
      · have hz := rfl (a := 0)
        have n_81 : ¬ (z16 ≤ v8w4) := fun q => c_8 ((iLE (a := z16) (b := v8w4) (by omega) (by omega)).mpr q)
        refine lv_aload_n hx hb dX13_cut_15 rfl (lv_at hl 4 rfl) ?_
        refine lv_iload hx hb dX13_cut_16 (lv_at hl 0 rfl) ?_
        refine lv_lconst (v := 0) hx hb dX13_cut_18 (by decide) ?_
        obtain ⟨f82, hM82⟩ := hW.open_99 ik2
        refine pg_last hx hb hK hP hD hS ik2.1 1 hM82 rfl (inbN v8w4 24 (by omega) (by omega)) dX13_cut_19 (fun H_83 locs hP hD hS => ?_)
        obtain ⟨M_84, eM_84⟩ : ∃ M1 : Hp, M1 = va_up M_6 k2 (.inl (cy 15, 24, .inr (.inl (vp_updL f82 ((nI v8w4) : Int32).toNatClampNeg 0)))) := ⟨_, rfl⟩
        have hP : va_P D vwCl ([(za, (b13_0 z0 z1 (nI z2) (nI z3) z4 z5 z6 z7 z8 z9 (nI z10) z11 z12 z13 z14 z15 (nI z16) z17 z18 z19))] ++ va_pl L M_84) H_83 := by rw [eM_84]; exact hP
        have hD : va_D A ([(za, (b13_0 z0 z1 (nI z2) (nI z3) z4 z5 z6 z7 z8 z9 (nI z10) z11 z12 z13 z14 z15 (nI z16) z17 z18 z19))] ++ va_pl L M_84) := by rw [eM_84]; exact hD
        have hW : WOM cy K L M_84 := by rw [eM_84]; exact hW.up_99 ik2 ⟨_, rfl⟩
        have hF : fr K L [99, 98] M M_84 := by rw [eM_84]; exact hF.up ik2 (by decide)
        have hM_85 : M_84 k2 = .inl (cy 15, 24, .inr (.inl (vp_updL f82 ((nI v8w4) : Int32).toNatClampNeg 0))) := by rw [eM_84]; exact va_up_self _ _ _
        obtain ⟨f_86, ef_86⟩ : ∃ f : Nat → Int64, f = vp_updL f82 ((nI v8w4) : Int32).toNatClampNeg 0 := ⟨_, rfl⟩
        rw [← ef_86] at hM_85
        clear ef_86
        refine lv_lload hx hb dX13_cut_20 (lv_at hl 1 rfl) ?_
        refine lv_aload_n hx hb dX13_cut_22 rfl (lv_at hl 2 rfl) ?_
        refine lv_iload hx hb dX13_cut_23 (lv_at hl 0 rfl) ?_
        refine lv_iload hx hb dX13_cut_25 (lv_at hl 5 rfl) ?_
        refine lv_aload hx hb dX13_cut_27 (lv_at hl 6 rfl) ?_
        have hPc : va_P D vwCl ([(za, (b13_0 z0 z1 (nI z2) (nI z3) z4 z5 z6 z7 z8 z9 (nI z10) z11 z12 z13 z14 z15 (nI z16) z17 z18 z19))] ++ va_pl L M_84) H_83 := hP
        have hDc : va_D A ([(za, (b13_0 z0 z1 (nI z2) (nI z3) z4 z5 z6 z7 z8 z9 (nI z10) z11 z12 z13 z14 z15 (nI z16) z17 z18 z19))] ++ va_pl L M_84) := hD
        have hFc : ∀ q, va_A ([(za, (b13_0 z0 z1 (nI z2) (nI z3) z4 z5 z6 z7 z8 z9 (nI z10) z11 z12 z13 z14 z15 (nI z16) z17 z18 z19))] ++ va_pl L M_84) H_83.size q → A q := pg_free hDc hS hA
        refine va_calli (va_runV (As := [.int (nI v8w4), .int k3, .ref k4]) (rest := [.long v6w4]) ⟨hx, hb, hml, hown, hg⟩ (r_X13_weighs l D cy K L M_84 H_83.size za z0 z1 z2 z3 z4 z5 z6 z7 z8 z9 z10 z11 z12 z13 z14 z15 z16 z17 z18 z19 v8w4 k3 k4  hW i1 b2 b3 i6 i7 i8 i9 b10 i11 i12 i13 i14 i15 b16 i17 i19 (by omega) ik4) (cwV 3 hg (gV wd_785 wd_786 wd_787 wd_717 wd_788) rfl rfl rfl (by decide +kernel) ⟨(Nat.le_trans (Nat.le_of_ble_eq_true rfl) hRf), (Nat.le_trans (Nat.le_of_ble_eq_true rfl) hRl)⟩) ⟨PG.blind, va_recv hK hP (ci := 13) (q0 := 0) rfl rfl, fun U hU hW => ⟨rfl, PG.at hPc hK hDc hN hU hW⟩⟩ rfl rfl hl.1 rfl (lv_room (Nat.le_of_ble_eq_true rfl)) dX13_cut_29 ⟨(Nat.le_trans (Nat.le_of_ble_eq_true rfl) hRc), (Nat.le_trans (Nat.le_of_ble_eq_true rfl) hRs)⟩) hS (fun q _ h => hFc q h) hFc (fun r_88 M_89 t H_87 locs ht hvm hw hB hz1 hk1 hS => ?_)
        have hp_90 := hw
        obtain ⟨hP1, hD1⟩ := hB
        rw [ht] at hP1
        have hP : va_P D vwCl ([(za, (b13_0 z0 z1 (nI z2) (nI z3) z4 z5 z6 z7 z8 z9 (nI z10) z11 z12 z13 z14 z15 (nI z16) z17 z18 z19))] ++ va_pl L M_84) H_87 := hP1
        have hD : va_D A ([(za, (b13_0 z0 z1 (nI z2) (nI z3) z4 z5 z6 z7 z8 z9 (nI z10) z11 z12 z13 z14 z15 (nI z16) z17 z18 z19))] ++ va_pl L M_84) := hD1.mono hFc
        refine lv_i2l hx hb dX13_cut_32 rfl ?_
        refine lv_topl (fun f_91 ef_91 => ?_)
        refine lv_ladd hx hb dX13_cut_33 ?_
        refine lv_topl (fun f_92 ef_92 => ?_)
        refine lv_lstore (lv' := [(6, .long f_92), (8, .int (nI v8w4)), (0, .ref za), (1, .long k1), (3, .ref k2), (4, .int k3), (5, .ref k4)]) hx hb dX13_cut_34 hl (by decide) rfl (fun ls hl => ?_)
        refine lv_iinc (v := (nI (v8w4 + 1))) (lv' := [(8, .int (nI (v8w4 + 1))), (6, .long f_92), (0, .ref za), (1, .long k1), (3, .ref k2), (4, .int k3), (5, .ref k4)]) hx hb dX13_cut_36 hl (k := 1) rfl (nI_1 v8w4) (by decide) rfl (fun ls hl => ?_)
        refine lv_goto (tgt := 6) hx hb dX13_cut_39 (by decide) ?_
        exact ih_2 f_92 (v8w4 + 1) M_84 H_87 _ _ (by omega) (by omega) hW hF hP hD hS (lv_sub hl [0, 1, 2, 3, 4, 5, 6] rfl)
  exact key_1 (24 - 0 + 1) 0 0 M s.heap _ _ (by omega) (by omega) hW hF hP hD hS (lv_sub hl [0, 1, 2, 3, 4, 5, 6] rfl)
set_option maxHeartbeats 4000000 in
set_option maxRecDepth 100000 in
theorem r_X13_bearing (l : Launch) (D : va_G) (cy : Nat → ClassId) (K : Kp) (L : List Nat) (M : Hp) (sz : Nat) (za : Nat) (z0 : Int32) (z1 : Nat) (z2 : Nat) (z3 : Nat) (z4 : Int32) (z5 : Int32) (z6 : Nat) (z7 : Nat) (z8 : Nat) (z9 : Nat) (z10 : Nat) (z11 : Nat) (z12 : Nat) (z13 : Nat) (z14 : Nat) (z15 : Nat) (z16 : Nat) (z17 : Nat) (z18 : Int32) (z19 : Nat) (k1 : Nat) (k2 : Int64) (hW : WOM cy K L M) (i1 : isk K L z1 23 8) (b2 : z2 ≤ 8) (b3 : z3 ≤ 40) (i6 : isk K L z6 47 40) (i7 : isk K L z7 48 40) (i8 : isk K L z8 49 8) (i9 : isk K L z9 50 8) (b10 : z10 ≤ 8) (i11 : isk K L z11 32 24) (i12 : isk K L z12 14 24) (i13 : isk K L z13 97 24) (i14 : isk K L z14 98 24) (i15 : isk K L z15 99 24) (b16 : z16 ≤ 24) (i17 : isk K L z17 14 24) (i19 : isk K L z19 15 25) (ik1 : isk K L k1 12 0) : Met l yX13_bearing (wsM yX13_bearing cX13_bearing 10 (some .long)) ({ frames := 3, cells := 0, slots := 0, locals := 78 }) (va_Pc [.ref za, .ref k1, .long k2] (PG D cy [(za, (b13_0 z0 z1 (nI z2) (nI z3) z4 z5 z6 z7 z8 z9 (nI z10) z11 z12 z13 z14 z15 (nI z16) z17 z18 z19))] L M sz)) (va_Ql (fun (r : Int64) (M9 : Hp) => WOM cy K L M9 ∧ fr K L [15, 97, 98, 99] M M9 ∧ (True)) (fun M9 t => PQ D [(za, (b13_0 z0 z1 (nI z2) (nI z3) z4 z5 z6 z7 z8 z9 (nI z10) z11 z12 z13 z14 z15 (nI z16) z17 z18 z19))] L M9 (va_A ([(za, (b13_0 z0 z1 (nI z2) (nI z3) z4 z5 z6 z7 z8 z9 (nI z10) z11 z12 z13 z14 z15 (nI z16) z17 z18 z19))] ++ va_pl L M) sz) t) (va_A ([(za, (b13_0 z0 z1 (nI z2) (nI z3) z4 z5 z6 z7 z8 z9 (nI z10) z11 z12 z13 z14 z15 (nI z16) z17 z18 z19))] ++ va_pl L M) sz)) 0 0 (va_A ([(za, (b13_0 z0 z1 (nI z2) (nI z3) z4 z5 z6 z7 z8 z9 (nI z10) z11 z12 z13 z14 z15 (nI z16) z17 z18 z19))] ++ va_pl L M) sz) := by
  refine Met.ofW (cc := cX13_bearing) (maxL := 10) (ret := (some .long)) (by decide) rfl ?_
  intro p e s m args below meth c s₁ B hml hv
  obtain ⟨rfl, hsz, hP, hK, hD0, hN⟩ := hv
  have hx := B.exec
  have hb := B.bytes
  have hr := B.returns
  have hts := atoms_spec (ws := (wsM yX13_bearing cX13_bearing 10 (some .long))) B.pre
  have hg : ∀ w ∈ lw_good, w.before _ s = true := fun w h => hts w (List.mem_cons_of_mem _ h)
  have hown : s.vm.findClass RX13 = some m.cls := findClass_of_methodNamed B.named
  have hlocks := B.notSynchronized
  subst hsz
  have hD := hD0.self (sz := s.heap.size)
  generalize hAe : va_A ([(za, (b13_0 z0 z1 (nI z2) (nI z3) z4 z5 z6 z7 z8 z9 (nI z10) z11 z12 z13 z14 z15 (nI z16) z17 z18 z19))] ++ va_pl L M) s.heap.size = A at hD ⊢
  have hA : ∀ q : Nat, s.heap.size ≤ q → A q := fun q h => by rw [← hAe]; exact Or.inr h
  have hS : va_S A s.heap s.heap [] := va_S.rf
  have hl := lv_entry ([.ref za, .ref k1, .long k2]) (n := 10) (Nat.le_of_ble_eq_true rfl)
  rw [lg_entry_eq]
  generalize (lg_sl ([.ref za, .ref k1, .long k2]) ++ List.replicate (10 - (lg_sl ([.ref za, .ref k1, .long k2])).length) Slot.unset).toArray = ls at hl ⊢
  refine W.nameQ (fun Q hQ => ?_)
  refine W.nameR (fun R hR => ?_)
  have hRf : 3 ≤ R.frames := by rw [hR]; exact Nat.le_of_ble_eq_true rfl
  have hRl : 78 ≤ R.locals := by rw [hR]; exact Nat.le_of_ble_eq_true rfl
  have hRc : 0 ≤ R.cells := by rw [hR]; exact Nat.le_of_ble_eq_true rfl
  have hRs : 0 ≤ R.slots := by rw [hR]; exact Nat.le_of_ble_eq_true rfl
  have hF : fr K L [15, 97, 98, 99] M M := fr.rf
  have hl : lv_has ls 10 [(0, .ref za), (1, .ref k1), (2, .long k2)] := hl
  refine lv_aload_n hx hb dX13_bearing_0 rfl (lv_at hl 0 rfl) ?_
  refine lv_lload_n hx hb dX13_bearing_1 rfl (lv_at hl 2 rfl) ?_
  refine lv_aload_n hx hb dX13_bearing_2 rfl (lv_at hl 0 rfl) ?_
  refine va_get (D := D) (ci := 13) (v := .ref z13) (C := RX13) (T := TX13) (N := 20) hx hb hg inG13 hown hK hP 0 rfl rfl 13 (by decide) (hg _ wd_789) (fun _ h9 => h9) rfl dX13_bearing_3 ?_
  refine lv_iconst (v := 0) hx hb dX13_bearing_6 (by decide) ?_
  refine lv_aload_n hx hb dX13_bearing_7 rfl (lv_at hl 1 rfl) ?_
  have hPc : va_P D vwCl ([(za, (b13_0 z0 z1 (nI z2) (nI z3) z4 z5 z6 z7 z8 z9 (nI z10) z11 z12 z13 z14 z15 (nI z16) z17 z18 z19))] ++ va_pl L M) s.heap := hP
  have hDc : va_D A ([(za, (b13_0 z0 z1 (nI z2) (nI z3) z4 z5 z6 z7 z8 z9 (nI z10) z11 z12 z13 z14 z15 (nI z16) z17 z18 z19))] ++ va_pl L M) := hD
  have hFc : ∀ q, va_A ([(za, (b13_0 z0 z1 (nI z2) (nI z3) z4 z5 z6 z7 z8 z9 (nI z10) z11 z12 z13 z14 z15 (nI z16) z17 z18 z19))] ++ va_pl L M) s.heap.size q → A q := pg_free hDc hS hA
  refine va_calli (va_runV (As := [.long k2, .ref z13, .int 0, .ref k1]) (rest := []) ⟨hx, hb, hml, hown, hg⟩ (r_X13_cut_97 l D cy K L M s.heap.size za z0 z1 z2 z3 z4 z5 z6 z7 z8 z9 z10 z11 z12 z13 z14 z15 z16 z17 z18 z19 k2 z13 0 k1  hW i1 b2 b3 i6 i7 i8 i9 b10 i11 i12 i13 i14 i15 b16 i17 i19 i13 ik1) (cwV 4 hg (gV wd_790 wd_791 wd_792 wd_717 wd_793) rfl rfl rfl (by decide +kernel) ⟨(Nat.le_trans (Nat.le_of_ble_eq_true rfl) hRf), (Nat.le_trans (Nat.le_of_ble_eq_true rfl) hRl)⟩) ⟨PG.blind, va_recv hK hP (ci := 13) (q0 := 0) rfl rfl, fun U hU hW => ⟨rfl, PG.at hPc hK hDc hN hU hW⟩⟩ rfl rfl hl.1 rfl (lv_room (Nat.le_of_ble_eq_true rfl)) dX13_bearing_8 ⟨(Nat.le_trans (Nat.le_of_ble_eq_true rfl) hRc), (Nat.le_trans (Nat.le_of_ble_eq_true rfl) hRs)⟩) hS (fun q _ h => hFc q h) hFc (fun r_2 M_3 t H_1 locs ht hvm hw hB hz1 hk1 hS => ?_)
  obtain ⟨hW, hF2, hp_4⟩ := hw
  obtain ⟨hP1, hD1⟩ := hB
  rw [ht] at hP1
  have hP : va_P D vwCl ([(za, (b13_0 z0 z1 (nI z2) (nI z3) z4 z5 z6 z7 z8 z9 (nI z10) z11 z12 z13 z14 z15 (nI z16) z17 z18 z19))] ++ va_pl L M_3) H_1 := hP1
  have hD : va_D A ([(za, (b13_0 z0 z1 (nI z2) (nI z3) z4 z5 z6 z7 z8 z9 (nI z10) z11 z12 z13 z14 z15 (nI z16) z17 z18 z19))] ++ va_pl L M_3) := hD1.mono hFc
  have hF : fr K L [15, 97, 98, 99] M M_3 := hF.tr hF2 (by decide)
  rcases hp_4 with rfl | rfl
  · have hz := rfl (a := 0)
    refine lv_istore (lv' := [(4, .int 1), (0, .ref za), (1, .ref k1), (2, .long k2)]) hx hb dX13_bearing_11 hl (by decide) rfl (fun ls hl => ?_)
    refine lv_iload hx hb dX13_bearing_13 (lv_at hl 0 rfl) ?_
    refine lv_if_ne (tgt := 20) hx hb dX13_bearing_15 (by decide) (fun _ => ?_) (fun c_5 => absurd c_5 (by decide))
    refine lv_lconst (v := 0) hx hb dX13_bearing_20 (by decide) ?_
    refine lv_lstore (lv' := [(5, .long 0), (4, .int 1), (0, .ref za), (1, .ref k1), (2, .long k2)]) hx hb dX13_bearing_21 hl (by decide) rfl (fun ls hl => ?_)
    refine lv_iconst (v := 0) hx hb dX13_bearing_23 (by decide) ?_
    refine lv_istore (lv' := [(7, .int 0), (5, .long 0), (4, .int 1), (0, .ref za), (1, .ref k1), (2, .long k2)]) hx hb dX13_bearing_24 hl (by decide) rfl (fun ls hl => ?_)
    have key_6 : ∀ (fu_8 : Nat) (v5w9 : Int64) (v7w9 : Nat) (M_11 : Hp) (H_12 : Heap) (locs : List Loc) (ls : Array Slot), 24 - v7w9 < fu_8 → v7w9 ≤ 24 → WOM cy K L M_11 → fr K L [15, 97, 98, 99] M M_11 → va_P D vwCl ([(za, (b13_0 z0 z1 (nI z2) (nI z3) z4 z5 z6 z7 z8 z9 (nI z10) z11 z12 z13 z14 z15 (nI z16) z17 z18 z19))] ++ va_pl L M_11) H_12 → va_D A ([(za, (b13_0 z0 z1 (nI z2) (nI z3) z4 z5 z6 z7 z8 z9 (nI z10) z11 z12 z13 z14 z15 (nI z16) z17 z18 z19))] ++ va_pl L M_11) → va_S A s.heap H_12 locs → lv_has ls 10 [(7, .int (nI v7w9)), (5, .long v5w9), (4, .int 1), (0, .ref za), (1, .ref k1), (2, .long k2)] → W p l e R s m ([.ref za, .ref k1, .long k2] : List Value).toArray below meth c H_12 locs 0 0 Q (F0 m 26 ls []) := by
      intro fu_8
      induction fu_8 with
      | zero => intro v5w9 v7w9 M_11 H_12 locs ls h; exact absurd h (Nat.not_lt_zero _)
      | succ fu_8 ih_7 =>
        intro v5w9 v7w9 M_11 H_12 locs ls hfu hx_10 hW hF hP hD hS hl
        refine lv_iload hx hb dX13_bearing_26 (lv_at hl 0 rfl) ?_
        refine lv_aload_n hx hb dX13_bearing_28 rfl (lv_at hl 3 rfl) ?_
        refine va_get (D := D) (ci := 13) (v := .int (nI z16)) (C := RX13) (T := TX13) (N := 20) hx hb hg inG13 hown hK hP 0 rfl rfl 16 (by decide) (hg _ wd_769) (fun _ h9 => h9) rfl dX13_bearing_29 ?_
        refine lv_icmp_ge (tgt := 132) hx hb dX13_bearing_32 (by decide) (fun c_13 => ?_) (fun c_13 => ?_)
        · have hz := rfl (a := 0)
          have n_14 : z16 ≤ v7w9 := (iLE (a := z16) (b := v7w9) (by omega) (by omega)).mp c_13
          refine lv_lload hx hb dX13_bearing_132 (lv_at hl 1 rfl) ?_
          refine lv_lconst (v := 0) hx hb dX13_bearing_134 (by decide) ?_
          refine W.lcmp hx hb dX13_bearing_135 ?_
          refine lv_if_eq (tgt := 154) hx hb dX13_bearing_136 (by decide) (fun c_15 => ?_) (fun c_15 => ?_)
          · have hz := rfl (a := 0)
            refine lv_lload hx hb dX13_bearing_154 (lv_at hl 1 rfl) ?_
            rw [hQ]
            exact W.lret (v := v5w9) hx hb hr (fun t ht hW9 => ⟨⟨v5w9, M_11, rfl, ⟨hW, hF, trivial⟩, ⟨by rw [ht]; exact hP, hD⟩⟩, hS.F ht⟩) hS.2.2 dX13_bearing_156
          · have hz := rfl (a := 0)
            refine lv_aload_n hx hb dX13_bearing_139 rfl (lv_at hl 3 rfl) ?_
            refine lv_lload hx hb dX13_bearing_140 (lv_at hl 1 rfl) ?_
            refine lv_aload_n hx hb dX13_bearing_142 rfl (lv_at hl 3 rfl) ?_
            refine va_get (D := D) (ci := 13) (v := .ref z15) (C := RX13) (T := TX13) (N := 20) hx hb hg inG13 hown hK hP 0 rfl rfl 15 (by decide) (hg _ wd_794) (fun _ h9 => h9) rfl dX13_bearing_143 ?_
            refine lv_iconst (v := 1) hx hb dX13_bearing_146 (by decide) ?_
            refine lv_aload_n hx hb dX13_bearing_147 rfl (lv_at hl 4 rfl) ?_
            have hPc : va_P D vwCl ([(za, (b13_0 z0 z1 (nI z2) (nI z3) z4 z5 z6 z7 z8 z9 (nI z10) z11 z12 z13 z14 z15 (nI z16) z17 z18 z19))] ++ va_pl L M_11) H_12 := hP
            have hDc : va_D A ([(za, (b13_0 z0 z1 (nI z2) (nI z3) z4 z5 z6 z7 z8 z9 (nI z10) z11 z12 z13 z14 z15 (nI z16) z17 z18 z19))] ++ va_pl L M_11) := hD
            have hFc : ∀ q, va_A ([(za, (b13_0 z0 z1 (nI z2) (nI z3) z4 z5 z6 z7 z8 z9 (nI z10) z11 z12 z13 z14 z15 (nI z16) z17 z18 z19))] ++ va_pl L M_11) H_12.size q → A q := pg_free hDc hS hA
            refine va_calli (va_runV (As := [.long v5w9, .ref z15, .int 1, .ref k1]) (rest := []) ⟨hx, hb, hml, hown, hg⟩ (r_X13_cut_99 l D cy K L M_11 H_12.size za z0 z1 z2 z3 z4 z5 z6 z7 z8 z9 z10 z11 z12 z13 z14 z15 z16 z17 z18 z19 v5w9 z15 1 k1  hW i1 b2 b3 i6 i7 i8 i9 b10 i11 i12 i13 i14 i15 b16 i17 i19 i15 ik1) (cwV 4 hg (gV wd_790 wd_791 wd_792 wd_717 wd_793) rfl rfl rfl (by decide +kernel) ⟨(Nat.le_trans (Nat.le_of_ble_eq_true rfl) hRf), (Nat.le_trans (Nat.le_of_ble_eq_true rfl) hRl)⟩) ⟨PG.blind, va_recv hK hP (ci := 13) (q0 := 0) rfl rfl, fun U hU hW => ⟨rfl, PG.at hPc hK hDc hN hU hW⟩⟩ rfl rfl hl.1 rfl (lv_room (Nat.le_of_ble_eq_true rfl)) dX13_bearing_148 ⟨(Nat.le_trans (Nat.le_of_ble_eq_true rfl) hRc), (Nat.le_trans (Nat.le_of_ble_eq_true rfl) hRs)⟩) hS (fun q _ h => hFc q h) hFc (fun r_18 M_19 t H_17 locs ht hvm hw hB hz1 hk1 hS => ?_)
            obtain ⟨hW, hF2, hp_20⟩ := hw
            obtain ⟨hP1, hD1⟩ := hB
            rw [ht] at hP1
            have hP : va_P D vwCl ([(za, (b13_0 z0 z1 (nI z2) (nI z3) z4 z5 z6 z7 z8 z9 (nI z10) z11 z12 z13 z14 z15 (nI z16) z17 z18 z19))] ++ va_pl L M_19) H_17 := hP1
            have hD : va_D A ([(za, (b13_0 z0 z1 (nI z2) (nI z3) z4 z5 z6 z7 z8 z9 (nI z10) z11 z12 z13 z14 z15 (nI z16) z17 z18 z19))] ++ va_pl L M_19) := hD1.mono hFc
            have hF : fr K L [15, 97, 98, 99] M M_19 := hF.tr hF2 (by decide)
            rcases hp_20 with rfl | rfl
            · have hz := rfl (a := 0)
              refine lv_if_ne (tgt := 157) hx hb dX13_bearing_151 (by decide) (fun _ => ?_) (fun c_21 => absurd c_21 (by decide))
              refine lv_iconst (v := 0) hx hb dX13_bearing_157 (by decide) ?_
              refine lv_istore (lv' := [(7, .int 0), (5, .long v5w9), (4, .int 1), (0, .ref za), (1, .ref k1), (2, .long k2)]) hx hb dX13_bearing_158 hl (by decide) rfl (fun ls hl => ?_)
              have key_22 : ∀ (fu_24 : Nat) (v7w25 : Nat) (M_27 : Hp) (H_28 : Heap) (locs : List Loc) (ls : Array Slot), 24 - v7w25 < fu_24 → v7w25 ≤ 24 → WOM cy K L M_27 → fr K L [15, 97, 98, 99] M M_27 → va_P D vwCl ([(za, (b13_0 z0 z1 (nI z2) (nI z3) z4 z5 z6 z7 z8 z9 (nI z10) z11 z12 z13 z14 z15 (nI z16) z17 z18 z19))] ++ va_pl L M_27) H_28 → va_D A ([(za, (b13_0 z0 z1 (nI z2) (nI z3) z4 z5 z6 z7 z8 z9 (nI z10) z11 z12 z13 z14 z15 (nI z16) z17 z18 z19))] ++ va_pl L M_27) → va_S A s.heap H_28 locs → lv_has ls 10 [(7, .int (nI v7w25)), (5, .long v5w9), (4, .int 1), (0, .ref za), (1, .ref k1), (2, .long k2)] → W p l e R s m ([.ref za, .ref k1, .long k2] : List Value).toArray below meth c H_28 locs 0 0 Q (F0 m 160 ls []) := by
                intro fu_24
                induction fu_24 with
                | zero => intro v7w25 M_27 H_28 locs ls h; exact absurd h (Nat.not_lt_zero _)
                | succ fu_24 ih_23 =>
                  intro v7w25 M_27 H_28 locs ls hfu hx_26 hW hF hP hD hS hl
                  refine lv_iload hx hb dX13_bearing_160 (lv_at hl 0 rfl) ?_
                  refine lv_aload_n hx hb dX13_bearing_162 rfl (lv_at hl 3 rfl) ?_
                  refine va_get (D := D) (ci := 13) (v := .int (nI z16)) (C := RX13) (T := TX13) (N := 20) hx hb hg inG13 hown hK hP 0 rfl rfl 16 (by decide) (hg _ wd_769) (fun _ h9 => h9) rfl dX13_bearing_163 ?_
                  refine lv_icmp_ge (tgt := 192) hx hb dX13_bearing_166 (by decide) (fun c_29 => ?_) (fun c_29 => ?_)
                  · have hz := rfl (a := 0)
                    have n_30 : z16 ≤ v7w25 := (iLE (a := z16) (b := v7w25) (by omega) (by omega)).mp c_29
                    refine lv_lconst (v := 0) hx hb dX13_bearing_192 (by decide) ?_
                    rw [hQ]
                    exact W.lret (v := 0) hx hb hr (fun t ht hW9 => ⟨⟨0, M_27, rfl, ⟨hW, hF, trivial⟩, ⟨by rw [ht]; exact hP, hD⟩⟩, hS.F ht⟩) hS.2.2 dX13_bearing_193
                  · have hz := rfl (a := 0)
                    have n_31 : ¬ (z16 ≤ v7w25) := fun q => c_29 ((iLE (a := z16) (b := v7w25) (by omega) (by omega)).mpr q)
                    refine lv_aload_n hx hb dX13_bearing_169 rfl (lv_at hl 3 rfl) ?_
                    refine va_get (D := D) (ci := 13) (v := .ref z13) (C := RX13) (T := TX13) (N := 20) hx hb hg inG13 hown hK hP 0 rfl rfl 13 (by decide) (hg _ wd_789) (fun _ h9 => h9) rfl dX13_bearing_170 ?_
                    refine lv_iload hx hb dX13_bearing_173 (lv_at hl 0 rfl) ?_
                    refine lv_dup2_11 hx hb dX13_bearing_175 rfl rfl ?_
                    obtain ⟨f32, hM32⟩ := hW.open_97 i13
                    refine pg_lald hx hb hK hP i13.1 1 hM32 rfl (inbN v7w25 24 (by omega) (by omega)) dX13_bearing_176 ?_
                    refine lv_topl (fun f_33 ef_33 => ?_)
                    refine lv_aload_n hx hb dX13_bearing_177 rfl (lv_at hl 3 rfl) ?_
                    refine va_get (D := D) (ci := 13) (v := .ref z15) (C := RX13) (T := TX13) (N := 20) hx hb hg inG13 hown hK hP 0 rfl rfl 15 (by decide) (hg _ wd_794) (fun _ h9 => h9) rfl dX13_bearing_178 ?_
                    refine lv_iload hx hb dX13_bearing_181 (lv_at hl 0 rfl) ?_
                    obtain ⟨f34, hM34⟩ := hW.open_99 i15
                    refine pg_lald hx hb hK hP i15.1 1 hM34 rfl (inbN v7w25 24 (by omega) (by omega)) dX13_bearing_183 ?_
                    refine lv_topl (fun f_35 ef_35 => ?_)
                    refine lv_ladd hx hb dX13_bearing_184 ?_
                    refine lv_topl (fun f_36 ef_36 => ?_)
                    refine pg_last hx hb hK hP hD hS i13.1 1 hM32 rfl (inbN v7w25 24 (by omega) (by omega)) dX13_bearing_185 (fun H_37 locs hP hD hS => ?_)
                    obtain ⟨M_38, eM_38⟩ : ∃ M1 : Hp, M1 = va_up M_27 z13 (.inl (cy 15, 24, .inr (.inl (vp_updL f32 ((nI v7w25) : Int32).toNatClampNeg f_36)))) := ⟨_, rfl⟩
                    have hP : va_P D vwCl ([(za, (b13_0 z0 z1 (nI z2) (nI z3) z4 z5 z6 z7 z8 z9 (nI z10) z11 z12 z13 z14 z15 (nI z16) z17 z18 z19))] ++ va_pl L M_38) H_37 := by rw [eM_38]; exact hP
                    have hD : va_D A ([(za, (b13_0 z0 z1 (nI z2) (nI z3) z4 z5 z6 z7 z8 z9 (nI z10) z11 z12 z13 z14 z15 (nI z16) z17 z18 z19))] ++ va_pl L M_38) := by rw [eM_38]; exact hD
                    have hW : WOM cy K L M_38 := by rw [eM_38]; exact hW.up_97 i13 ⟨_, rfl⟩
                    have hF : fr K L [15, 97, 98, 99] M M_38 := by rw [eM_38]; exact hF.up i13 (by decide)
                    have hM_39 : M_38 z13 = .inl (cy 15, 24, .inr (.inl (vp_updL f32 ((nI v7w25) : Int32).toNatClampNeg f_36))) := by rw [eM_38]; exact va_up_self _ _ _
                    have hM_40 : M_38 z15 = .inl (cy 15, 24, .inr (.inl (f34))) := by rw [eM_38, va_up_ne _ _ (i15.neT i13 (by decide))]; exact hM34
                    obtain ⟨f_41, ef_41⟩ : ∃ f : Nat → Int64, f = vp_updL f32 ((nI v7w25) : Int32).toNatClampNeg f_36 := ⟨_, rfl⟩
                    rw [← ef_41] at hM_39
                    clear ef_41
                    refine lv_iinc (v := (nI (v7w25 + 1))) (lv' := [(7, .int (nI (v7w25 + 1))), (5, .long v5w9), (4, .int 1), (0, .ref za), (1, .ref k1), (2, .long k2)]) hx hb dX13_bearing_186 hl (k := 0) rfl (nI_1 v7w25) (by decide) rfl (fun ls hl => ?_)
                    refine lv_goto (tgt := 160) hx hb dX13_bearing_189 (by decide) ?_
                    exact ih_23 (v7w25 + 1) M_38 H_37 _ _ (by omega) (by omega) hW hF hP hD hS (lv_sub hl [0, 1, 2, 3, 4, 5] rfl)
              exact key_22 (24 - 0 + 1) 0 M_19 H_17 _ _ (by omega) (by omega) hW hF hP hD hS (lv_sub hl [0, 1, 2, 3, 4, 5] rfl)
            · have hz := rfl (a := 0)
              refine lv_if_ne (tgt := 157) hx hb dX13_bearing_151 (by decide) (fun c_42 => absurd c_42 (by decide)) (fun _ => ?_)
              refine lv_lload hx hb dX13_bearing_154 (lv_at hl 1 rfl) ?_
              rw [hQ]
              exact W.lret (v := v5w9) hx hb hr (fun t ht hW9 => ⟨⟨v5w9, M_19, rfl, ⟨hW, hF, trivial⟩, ⟨by rw [ht]; exact hP, hD⟩⟩, hS.F ht⟩) hS.2.2 dX13_bearing_156
        · have hz := rfl (a := 0)
          have n_43 : ¬ (z16 ≤ v7w9) := fun q => c_13 ((iLE (a := z16) (b := v7w9) (by omega) (by omega)).mpr q)
          refine lv_aload_n hx hb dX13_bearing_35 rfl (lv_at hl 3 rfl) ?_
          refine lv_aload_n hx hb dX13_bearing_36 rfl (lv_at hl 4 rfl) ?_
          refine lv_aload_n hx hb dX13_bearing_37 rfl (lv_at hl 3 rfl) ?_
          refine va_get (D := D) (ci := 13) (v := .ref z11) (C := RX13) (T := TX13) (N := 20) hx hb hg inG13 hown hK hP 0 rfl rfl 11 (by decide) (hg _ wd_764) (fun _ h9 => h9) rfl dX13_bearing_38 ?_
          refine lv_iload hx hb dX13_bearing_41 (lv_at hl 0 rfl) ?_
          obtain ⟨f44, hM44, hf44⟩ := hW.open_32 i11
          have hi_45 : vp_in (nI v7w9) 24 := (inbN v7w9 24 (by omega) (by omega))
          refine pg_iald hx hb hK hP i11.1 0 hM44 rfl hi_45 dX13_bearing_43 ?_
          have hp_46 := hf44 _ (vp_lt hi_45)
          obtain ⟨c_47, hc_48, ec_49⟩ := hp_46
          rw [ec_49]
          have hPc : va_P D vwCl ([(za, (b13_0 z0 z1 (nI z2) (nI z3) z4 z5 z6 z7 z8 z9 (nI z10) z11 z12 z13 z14 z15 (nI z16) z17 z18 z19))] ++ va_pl L M_11) H_12 := hP
          have hDc : va_D A ([(za, (b13_0 z0 z1 (nI z2) (nI z3) z4 z5 z6 z7 z8 z9 (nI z10) z11 z12 z13 z14 z15 (nI z16) z17 z18 z19))] ++ va_pl L M_11) := hD
          have hFc : ∀ q, va_A ([(za, (b13_0 z0 z1 (nI z2) (nI z3) z4 z5 z6 z7 z8 z9 (nI z10) z11 z12 z13 z14 z15 (nI z16) z17 z18 z19))] ++ va_pl L M_11) H_12.size q → A q := pg_free hDc hS hA
          refine va_calli (va_runV (As := [.ref k1, .int (nI c_47)]) (rest := []) ⟨hx, hb, hml, hown, hg⟩ (r_X13_isLimited l D cy K L M_11 H_12.size za z0 z1 z2 z3 z4 z5 z6 z7 z8 z9 z10 z11 z12 z13 z14 z15 z16 z17 z18 z19 k1 c_47  hW i1 b2 b3 i6 i7 i8 i9 b10 i11 i12 i13 i14 i15 b16 i17 i19 ik1 hc_48) (cwV 2 hg (gV wd_765 wd_766 wd_767 wd_717 wd_768) rfl rfl rfl (by decide +kernel) ⟨(Nat.le_trans (Nat.le_of_ble_eq_true rfl) hRf), (Nat.le_trans (Nat.le_of_ble_eq_true rfl) hRl)⟩) ⟨PG.blind, va_recv hK hP (ci := 13) (q0 := 0) rfl rfl, fun U hU hW => ⟨rfl, PG.at hPc hK hDc hN hU hW⟩⟩ rfl rfl hl.1 rfl (lv_room (Nat.le_of_ble_eq_true rfl)) dX13_bearing_44 ⟨(Nat.le_trans (Nat.le_of_ble_eq_true rfl) hRc), (Nat.le_trans (Nat.le_of_ble_eq_true rfl) hRs)⟩) hS (fun q _ h => hFc q h) hFc (fun r_51 M_52 t H_50 locs ht hvm hw hB hz1 hk1 hS => ?_)
          have hp_53 := hw
          obtain ⟨hP1, hD1⟩ := hB
          rw [ht] at hP1
          have hP : va_P D vwCl ([(za, (b13_0 z0 z1 (nI z2) (nI z3) z4 z5 z6 z7 z8 z9 (nI z10) z11 z12 z13 z14 z15 (nI z16) z17 z18 z19))] ++ va_pl L M_11) H_50 := hP1
          have hD : va_D A ([(za, (b13_0 z0 z1 (nI z2) (nI z3) z4 z5 z6 z7 z8 z9 (nI z10) z11 z12 z13 z14 z15 (nI z16) z17 z18 z19))] ++ va_pl L M_11) := hD1.mono hFc
          rcases hp_53 with rfl | rfl
          · have hz := rfl (a := 0)
            refine lv_if_ne (tgt := 53) hx hb dX13_bearing_47 (by decide) (fun _ => ?_) (fun c_54 => absurd c_54 (by decide))
            refine lv_aload_n hx hb dX13_bearing_53 rfl (lv_at hl 3 rfl) ?_
            refine va_get (D := D) (ci := 13) (v := .ref z7) (C := RX13) (T := TX13) (N := 20) hx hb hg inG13 hown hK hP 0 rfl rfl 7 (by decide) (hg _ wd_760) (fun _ h9 => h9) rfl dX13_bearing_54 ?_
            refine lv_aload_n hx hb dX13_bearing_57 rfl (lv_at hl 4 rfl) ?_
            obtain ⟨fs55, hM55, hn55, hl55⟩ := hW.open_12 ik1
            obtain ⟨v56, hv56, hc56⟩ : ∃ v : Nat, fs55[19]? = some (.ref v : Value) ∧ isk K L v 30 24 := hl55 19 (by decide)
            refine pg_getN (D := D) (ci := 12) (v := .ref v56) (C := RX12) (T := TX12) (N := 51) hx hb hg inG12 hown hK hP ik1.1 hM55 rfl 19 (by decide) (hN.use (Cond.fieldLinkNest RX13 72 RX12 "who" "[I" RX13) 28 rfl rfl) (fun _ h9 => h9) hv56 dX13_bearing_58 ?_
            refine lv_aload_n hx hb dX13_bearing_61 rfl (lv_at hl 3 rfl) ?_
            refine va_get (D := D) (ci := 13) (v := .ref z11) (C := RX13) (T := TX13) (N := 20) hx hb hg inG13 hown hK hP 0 rfl rfl 11 (by decide) (hg _ wd_764) (fun _ h9 => h9) rfl dX13_bearing_62 ?_
            refine lv_iload hx hb dX13_bearing_65 (lv_at hl 0 rfl) ?_
            have hi_57 : vp_in (nI v7w9) 24 := (inbN v7w9 24 (by omega) (by omega))
            refine pg_iald hx hb hK hP i11.1 0 hM44 rfl hi_57 dX13_bearing_67 ?_
            have hp_58 := hf44 _ (vp_lt hi_57)
            obtain ⟨c_59, hc_60, ec_61⟩ := hp_58
            rw [ec_61]
            obtain ⟨f62, hM62, hf62⟩ := hW.open_30 hc56
            have hi_63 : vp_in (nI c_59) 24 := (inbN c_59 24 (by omega) (by omega))
            refine pg_iald hx hb hK hP hc56.1 0 hM62 rfl hi_63 dX13_bearing_68 ?_
            have hp_64 := hf62 _ (vp_lt hi_63)
            obtain ⟨c_65, hc_66, ec_67⟩ := hp_64
            rw [ec_67]
            obtain ⟨f68, hM68⟩ := hW.open_48 i7
            refine pg_iald hx hb hK hP i7.1 0 hM68 rfl (inbN c_65 40 (by omega) (by omega)) dX13_bearing_69 ?_
            refine lv_topi (fun f_69 ef_69 => ?_)
            refine lv_i2l hx hb dX13_bearing_70 rfl ?_
            refine lv_topl (fun f_70 ef_70 => ?_)
            refine lv_aload_n hx hb dX13_bearing_71 rfl (lv_at hl 4 rfl) ?_
            obtain ⟨v71, hv71, hc71⟩ : ∃ v : Nat, fs55[29]? = some (.ref v : Value) ∧ isk K L v 89 24 := hl55 29 (by decide)
            refine pg_getN (D := D) (ci := 12) (v := .ref v71) (C := RX12) (T := TX12) (N := 51) hx hb hg inG12 hown hK hP ik1.1 hM55 rfl 29 (by decide) (hN.use (Cond.fieldLinkNest RX13 230 RX12 "borne" "[J" RX13) 38 rfl rfl) (fun _ h9 => h9) hv71 dX13_bearing_72 ?_
            refine lv_aload_n hx hb dX13_bearing_75 rfl (lv_at hl 3 rfl) ?_
            refine va_get (D := D) (ci := 13) (v := .ref z11) (C := RX13) (T := TX13) (N := 20) hx hb hg inG13 hown hK hP 0 rfl rfl 11 (by decide) (hg _ wd_764) (fun _ h9 => h9) rfl dX13_bearing_76 ?_
            refine lv_iload hx hb dX13_bearing_79 (lv_at hl 0 rfl) ?_
            have hi_72 : vp_in (nI v7w9) 24 := (inbN v7w9 24 (by omega) (by omega))
            refine pg_iald hx hb hK hP i11.1 0 hM44 rfl hi_72 dX13_bearing_81 ?_
            have hp_73 := hf44 _ (vp_lt hi_72)
            obtain ⟨c_74, hc_75, ec_76⟩ := hp_73
            rw [ec_76]
            obtain ⟨f77, hM77⟩ := hW.open_89 hc71
            refine pg_lald hx hb hK hP hc71.1 1 hM77 rfl (inbN c_74 24 (by omega) (by omega)) dX13_bearing_82 ?_
            refine lv_topl (fun f_78 ef_78 => ?_)
            refine lv_lsub hx hb dX13_bearing_83 ?_
            refine lv_topl (fun f_79 ef_79 => ?_)
            refine lv_lstore (lv' := [(8, .long f_79), (7, .int (nI v7w9)), (5, .long v5w9), (4, .int 1), (0, .ref za), (1, .ref k1), (2, .long k2)]) hx hb dX13_bearing_84 hl (by decide) rfl (fun ls hl => ?_)
            refine lv_aload_n hx hb dX13_bearing_86 rfl (lv_at hl 4 rfl) ?_
            refine va_get (D := D) (ci := 13) (v := .ref z13) (C := RX13) (T := TX13) (N := 20) hx hb hg inG13 hown hK hP 0 rfl rfl 13 (by decide) (hg _ wd_789) (fun _ h9 => h9) rfl dX13_bearing_87 ?_
            refine lv_iload hx hb dX13_bearing_90 (lv_at hl 1 rfl) ?_
            obtain ⟨f80, hM80⟩ := hW.open_97 i13
            refine pg_lald hx hb hK hP i13.1 1 hM80 rfl (inbN v7w9 24 (by omega) (by omega)) dX13_bearing_92 ?_
            refine lv_topl (fun f_81 ef_81 => ?_)
            refine lv_lload hx hb dX13_bearing_93 (lv_at hl 0 rfl) ?_
            refine W.lcmp hx hb dX13_bearing_95 ?_
            refine lv_if_gt (tgt := 102) hx hb dX13_bearing_96 (by decide) (fun c_82 => ?_) (fun c_82 => ?_)
            · have hz := rfl (a := 0)
              have d_83 : f_79 < f_81 := lc_gtt c_82
              refine lv_lload hx hb dX13_bearing_102 (lv_at hl 2 rfl) ?_
              refine lv_aload_n hx hb dX13_bearing_104 rfl (lv_at hl 4 rfl) ?_
              refine va_get (D := D) (ci := 13) (v := .ref z13) (C := RX13) (T := TX13) (N := 20) hx hb hg inG13 hown hK hP 0 rfl rfl 13 (by decide) (hg _ wd_789) (fun _ h9 => h9) rfl dX13_bearing_105 ?_
              refine lv_iload hx hb dX13_bearing_108 (lv_at hl 1 rfl) ?_
              refine pg_lald hx hb hK hP i13.1 1 hM80 rfl (inbN v7w9 24 (by omega) (by omega)) dX13_bearing_110 ?_
              refine lv_topl (fun f_84 ef_84 => ?_)
              refine lv_lload hx hb dX13_bearing_111 (lv_at hl 0 rfl) ?_
              refine lv_lsub hx hb dX13_bearing_113 ?_
              refine lv_topl (fun f_85 ef_85 => ?_)
              refine lv_ladd hx hb dX13_bearing_114 ?_
              refine lv_topl (fun f_86 ef_86 => ?_)
              refine lv_lstore (lv' := [(5, .long f_86), (8, .long f_79), (7, .int (nI v7w9)), (4, .int 1), (0, .ref za), (1, .ref k1), (2, .long k2)]) hx hb dX13_bearing_115 hl (by decide) rfl (fun ls hl => ?_)
              refine lv_aload_n hx hb dX13_bearing_117 rfl (lv_at hl 4 rfl) ?_
              refine va_get (D := D) (ci := 13) (v := .ref z13) (C := RX13) (T := TX13) (N := 20) hx hb hg inG13 hown hK hP 0 rfl rfl 13 (by decide) (hg _ wd_789) (fun _ h9 => h9) rfl dX13_bearing_118 ?_
              refine lv_iload hx hb dX13_bearing_121 (lv_at hl 2 rfl) ?_
              refine lv_lload hx hb dX13_bearing_123 (lv_at hl 1 rfl) ?_
              refine pg_last hx hb hK hP hD hS i13.1 1 hM80 rfl (inbN v7w9 24 (by omega) (by omega)) dX13_bearing_125 (fun H_87 locs hP hD hS => ?_)
              obtain ⟨M_88, eM_88⟩ : ∃ M1 : Hp, M1 = va_up M_11 z13 (.inl (cy 15, 24, .inr (.inl (vp_updL f80 ((nI v7w9) : Int32).toNatClampNeg f_79)))) := ⟨_, rfl⟩
              have hP : va_P D vwCl ([(za, (b13_0 z0 z1 (nI z2) (nI z3) z4 z5 z6 z7 z8 z9 (nI z10) z11 z12 z13 z14 z15 (nI z16) z17 z18 z19))] ++ va_pl L M_88) H_87 := by rw [eM_88]; exact hP
              have hD : va_D A ([(za, (b13_0 z0 z1 (nI z2) (nI z3) z4 z5 z6 z7 z8 z9 (nI z10) z11 z12 z13 z14 z15 (nI z16) z17 z18 z19))] ++ va_pl L M_88) := by rw [eM_88]; exact hD
              have hW : WOM cy K L M_88 := by rw [eM_88]; exact hW.up_97 i13 ⟨_, rfl⟩
              have hF : fr K L [15, 97, 98, 99] M M_88 := by rw [eM_88]; exact hF.up i13 (by decide)
              have hM_89 : M_88 z13 = .inl (cy 15, 24, .inr (.inl (vp_updL f80 ((nI v7w9) : Int32).toNatClampNeg f_79))) := by rw [eM_88]; exact va_up_self _ _ _
              have hM_90 : M_88 z11 = .inl (cy 14, 24, .inl (f44)) := by rw [eM_88, va_up_ne _ _ (i11.neT i13 (by decide))]; exact hM44
              have hM_91 : M_88 k1 = .inr (12, fs55) := by rw [eM_88, va_up_ne _ _ (ik1.neT i13 (by decide))]; exact hM55
              have hM_92 : M_88 v56 = .inl (cy 14, 24, .inl (f62)) := by rw [eM_88, va_up_ne _ _ (hc56.neT i13 (by decide))]; exact hM62
              have hM_93 : M_88 z7 = .inl (cy 14, 40, .inl (f68)) := by rw [eM_88, va_up_ne _ _ (i7.neT i13 (by decide))]; exact hM68
              have hM_94 : M_88 v71 = .inl (cy 15, 24, .inr (.inl (f77))) := by rw [eM_88, va_up_ne _ _ (hc71.neT i13 (by decide))]; exact hM77
              obtain ⟨f_95, ef_95⟩ : ∃ f : Nat → Int64, f = vp_updL f80 ((nI v7w9) : Int32).toNatClampNeg f_79 := ⟨_, rfl⟩
              rw [← ef_95] at hM_89
              clear ef_95
              refine lv_iinc (v := (nI (v7w9 + 1))) (lv' := [(7, .int (nI (v7w9 + 1))), (5, .long f_86), (8, .long f_79), (4, .int 1), (0, .ref za), (1, .ref k1), (2, .long k2)]) hx hb dX13_bearing_126 hl (k := 2) rfl (nI_1 v7w9) (by decide) rfl (fun ls hl => ?_)
              refine lv_goto (tgt := 26) hx hb dX13_bearing_129 (by decide) ?_
              exact ih_7 f_86 (v7w9 + 1) M_88 H_87 _ _ (by omega) (by omega) hW hF hP hD hS (lv_sub hl [0, 1, 3, 4, 5, 6] rfl)
            · have hz := rfl (a := 0)
              have d_83 : ¬ f_79 < f_81 := lc_gtf c_82
              refine lv_goto (tgt := 126) hx hb dX13_bearing_99 (by decide) ?_
              refine lv_iinc (v := (nI (v7w9 + 1))) (lv' := [(7, .int (nI (v7w9 + 1))), (8, .long f_79), (5, .long v5w9), (4, .int 1), (0, .ref za), (1, .ref k1), (2, .long k2)]) hx hb dX13_bearing_126 hl (k := 1) rfl (nI_1 v7w9) (by decide) rfl (fun ls hl => ?_)
              refine lv_goto (tgt := 26) hx hb dX13_bearing_129 (by decide) ?_
              exact ih_7 v5w9 (v7w9 + 1) M_11 H_50 _ _ (by omega) (by omega) hW hF hP hD hS (lv_sub hl [0, 2, 3, 4, 5, 6] rfl)
          · have hz := rfl (a := 0)
            refine lv_if_ne (tgt := 53) hx hb dX13_bearing_47 (by decide) (fun c_96 => absurd c_96 (by decide)) (fun _ => ?_)
            refine lv_goto (tgt := 126) hx hb dX13_bearing_50 (by decide) ?_
            refine lv_iinc (v := (nI (v7w9 + 1))) (lv' := [(7, .int (nI (v7w9 + 1))), (5, .long v5w9), (4, .int 1), (0, .ref za), (1, .ref k1), (2, .long k2)]) hx hb dX13_bearing_126 hl (k := 0) rfl (nI_1 v7w9) (by decide) rfl (fun ls hl => ?_)
            refine lv_goto (tgt := 26) hx hb dX13_bearing_129 (by decide) ?_
            exact ih_7 v5w9 (v7w9 + 1) M_11 H_50 _ _ (by omega) (by omega) hW hF hP hD hS (lv_sub hl [0, 1, 2, 3, 4, 5] rfl)
    exact key_6 (24 - 0 + 1) 0 0 M_3 H_1 _ _ (by omega) (by omega) hW hF hP hD hS (lv_sub hl [0, 1, 2, 3, 4, 5] rfl)
  · have hz := rfl (a := 0)
    refine lv_istore (lv' := [(4, .int 0), (0, .ref za), (1, .ref k1), (2, .long k2)]) hx hb dX13_bearing_11 hl (by decide) rfl (fun ls hl => ?_)
    refine lv_iload hx hb dX13_bearing_13 (lv_at hl 0 rfl) ?_
    refine lv_if_ne (tgt := 20) hx hb dX13_bearing_15 (by decide) (fun c_97 => absurd c_97 (by decide)) (fun _ => ?_)
    refine lv_lload_n hx hb dX13_bearing_18 rfl (lv_at hl 3 rfl) ?_
    rw [hQ]
    exact W.lret (v := k2) hx hb hr (fun t ht hW9 => ⟨⟨k2, M_3, rfl, ⟨hW, hF, trivial⟩, ⟨by rw [ht]; exact hP, hD⟩⟩, hS.F ht⟩) hS.2.2 dX13_bearing_19
set_option maxHeartbeats 4000000 in
set_option maxRecDepth 100000 in
theorem r_X13_shares (l : Launch) (D : va_G) (cy : Nat → ClassId) (K : Kp) (L : List Nat) (M : Hp) (sz : Nat) (za : Nat) (z0 : Int32) (z1 : Nat) (z2 : Nat) (z3 : Nat) (z4 : Int32) (z5 : Int32) (z6 : Nat) (z7 : Nat) (z8 : Nat) (z9 : Nat) (z10 : Nat) (z11 : Nat) (z12 : Nat) (z13 : Nat) (z14 : Nat) (z15 : Nat) (z16 : Nat) (z17 : Nat) (z18 : Int32) (z19 : Nat) (k1 : Nat) (k2 : Nat) (k3 : Nat) (k4 : Int64) (hW : WOM cy K L M) (i1 : isk K L z1 23 8) (b2 : z2 ≤ 8) (b3 : z3 ≤ 40) (i6 : isk K L z6 47 40) (i7 : isk K L z7 48 40) (i8 : isk K L z8 49 8) (i9 : isk K L z9 50 8) (b10 : z10 ≤ 8) (i11 : isk K L z11 32 24) (i12 : isk K L z12 14 24) (i13 : isk K L z13 97 24) (i14 : isk K L z14 98 24) (i15 : isk K L z15 99 24) (b16 : z16 ≤ 24) (i17 : isk K L z17 14 24) (i19 : isk K L z19 15 25) (ik1 : isk K L k1 12 0) (nk2 : k2 < 120) (nk3 : k3 < 16) : Met l yX13_shares (wsM yX13_shares cX13_shares 7 none) ({ frames := 4, cells := 0, slots := 0, locals := 107 }) (va_Pc [.ref za, .ref k1, .int (nI k2), .int (nI k3), .long k4] (PG D cy [(za, (b13_0 z0 z1 (nI z2) (nI z3) z4 z5 z6 z7 z8 z9 (nI z10) z11 z12 z13 z14 z15 (nI z16) z17 z18 z19))] L M sz)) (va_Qv (fun (M9 : Hp) => WOM cy K L M9 ∧ fr K L [14, 15, 89, 92, 94, 95, 96, 97, 98, 99] M M9 ∧ (True)) (fun M9 t => PQ D [(za, (b13_0 z0 z1 (nI z2) (nI z3) z4 z5 z6 z7 z8 z9 (nI z10) z11 z12 z13 z14 z15 (nI z16) z17 z18 z19))] L M9 (va_A ([(za, (b13_0 z0 z1 (nI z2) (nI z3) z4 z5 z6 z7 z8 z9 (nI z10) z11 z12 z13 z14 z15 (nI z16) z17 z18 z19))] ++ va_pl L M) sz) t) (va_A ([(za, (b13_0 z0 z1 (nI z2) (nI z3) z4 z5 z6 z7 z8 z9 (nI z10) z11 z12 z13 z14 z15 (nI z16) z17 z18 z19))] ++ va_pl L M) sz)) 0 0 (va_A ([(za, (b13_0 z0 z1 (nI z2) (nI z3) z4 z5 z6 z7 z8 z9 (nI z10) z11 z12 z13 z14 z15 (nI z16) z17 z18 z19))] ++ va_pl L M) sz) := by
  refine Met.ofW (cc := cX13_shares) (maxL := 7) (ret := none) (by decide) rfl ?_
  intro p e s m args below meth c s₁ B hml hv
  obtain ⟨rfl, hsz, hP, hK, hD0, hN⟩ := hv
  have hx := B.exec
  have hb := B.bytes
  have hr := B.returns
  have hts := atoms_spec (ws := (wsM yX13_shares cX13_shares 7 none)) B.pre
  have hg : ∀ w ∈ lw_good, w.before _ s = true := fun w h => hts w (List.mem_cons_of_mem _ h)
  have hown : s.vm.findClass RX13 = some m.cls := findClass_of_methodNamed B.named
  have hlocks := B.notSynchronized
  subst hsz
  have hD := hD0.self (sz := s.heap.size)
  generalize hAe : va_A ([(za, (b13_0 z0 z1 (nI z2) (nI z3) z4 z5 z6 z7 z8 z9 (nI z10) z11 z12 z13 z14 z15 (nI z16) z17 z18 z19))] ++ va_pl L M) s.heap.size = A at hD ⊢
  have hA : ∀ q : Nat, s.heap.size ≤ q → A q := fun q h => by rw [← hAe]; exact Or.inr h
  have hS : va_S A s.heap s.heap [] := va_S.rf
  have hl := lv_entry ([.ref za, .ref k1, .int (nI k2), .int (nI k3), .long k4]) (n := 7) (Nat.le_of_ble_eq_true rfl)
  rw [lg_entry_eq]
  generalize (lg_sl ([.ref za, .ref k1, .int (nI k2), .int (nI k3), .long k4]) ++ List.replicate (7 - (lg_sl ([.ref za, .ref k1, .int (nI k2), .int (nI k3), .long k4])).length) Slot.unset).toArray = ls at hl ⊢
  refine W.nameQ (fun Q hQ => ?_)
  refine W.nameR (fun R hR => ?_)
  have hRf : 4 ≤ R.frames := by rw [hR]; exact Nat.le_of_ble_eq_true rfl
  have hRl : 107 ≤ R.locals := by rw [hR]; exact Nat.le_of_ble_eq_true rfl
  have hRc : 0 ≤ R.cells := by rw [hR]; exact Nat.le_of_ble_eq_true rfl
  have hRs : 0 ≤ R.slots := by rw [hR]; exact Nat.le_of_ble_eq_true rfl
  have hF : fr K L [14, 15, 89, 92, 94, 95, 96, 97, 98, 99] M M := fr.rf
  have hl : lv_has ls 7 [(0, .ref za), (1, .ref k1), (2, .int (nI k2)), (3, .int (nI k3)), (4, .long k4)] := hl
  refine lv_lload hx hb dX13_shares_0 (lv_at hl 4 rfl) ?_
  refine lv_lconst (v := 0) hx hb dX13_shares_2 (by decide) ?_
  refine W.lcmp hx hb dX13_shares_3 ?_
  refine lv_if_le (tgt := 79) hx hb dX13_shares_4 (by decide) (fun c_1 => ?_) (fun c_1 => ?_)
  · have hz := rfl (a := 0)
    have d_2 : k4 ≤ 0 := lc_let c_1
    refine lv_lload hx hb dX13_shares_79 (lv_at hl 4 rfl) ?_
    refine lv_lconst (v := 0) hx hb dX13_shares_81 (by decide) ?_
    refine W.lcmp hx hb dX13_shares_82 ?_
    refine lv_if_ge (tgt := 195) hx hb dX13_shares_83 (by decide) (fun c_3 => ?_) (fun c_3 => ?_)
    · have hz := rfl (a := 0)
      rw [hQ]
      exact W.vret hx hb hr (fun t ht hW9 => ⟨⟨M, rfl, ⟨hW, hF, trivial⟩, ⟨by rw [ht]; exact hP, hD⟩⟩, hS.F ht⟩) hS.2.2 dX13_shares_195
    · have hz := rfl (a := 0)
      refine lv_aload_n hx hb dX13_shares_86 rfl (lv_at hl 0 rfl) ?_
      refine lv_aload_n hx hb dX13_shares_87 rfl (lv_at hl 1 rfl) ?_
      refine lv_iload_n hx hb dX13_shares_88 rfl (lv_at hl 3 rfl) ?_
      refine lv_iconst (v := 3) hx hb dX13_shares_89 (by decide) ?_
      have hPc : va_P D vwCl ([(za, (b13_0 z0 z1 (nI z2) (nI z3) z4 z5 z6 z7 z8 z9 (nI z10) z11 z12 z13 z14 z15 (nI z16) z17 z18 z19))] ++ va_pl L M) s.heap := hP
      have hDc : va_D A ([(za, (b13_0 z0 z1 (nI z2) (nI z3) z4 z5 z6 z7 z8 z9 (nI z10) z11 z12 z13 z14 z15 (nI z16) z17 z18 z19))] ++ va_pl L M) := hD
      have hFc : ∀ q, va_A ([(za, (b13_0 z0 z1 (nI z2) (nI z3) z4 z5 z6 z7 z8 z9 (nI z10) z11 z12 z13 z14 z15 (nI z16) z17 z18 z19))] ++ va_pl L M) s.heap.size q → A q := pg_free hDc hS hA
      refine va_callv (va_runV (As := [.ref k1, .int (nI k3), .int 3]) (rest := []) ⟨hx, hb, hml, hown, hg⟩ (r_X13_weights l D cy K L M s.heap.size za z0 z1 z2 z3 z4 z5 z6 z7 z8 z9 z10 z11 z12 z13 z14 z15 z16 z17 z18 z19 k1 k3 3  hW i1 b2 b3 i6 i7 i8 i9 b10 i11 i12 i13 i14 i15 b16 i17 i19 ik1 nk3 (by omega)) (cwV 3 hg (gV wd_795 wd_796 wd_797 wd_717 wd_798) rfl rfl rfl (by decide +kernel) ⟨(Nat.le_trans (Nat.le_of_ble_eq_true rfl) hRf), (Nat.le_trans (Nat.le_of_ble_eq_true rfl) hRl)⟩) ⟨PG.blind, va_recv hK hP (ci := 13) (q0 := 0) rfl rfl, fun U hU hW => ⟨rfl, PG.at hPc hK hDc hN hU hW⟩⟩ rfl rfl hl.1 rfl (lv_room (Nat.le_of_ble_eq_true rfl)) dX13_shares_90 ⟨(Nat.le_trans (Nat.le_of_ble_eq_true rfl) hRc), (Nat.le_trans (Nat.le_of_ble_eq_true rfl) hRs)⟩) hS (fun q _ h => hFc q h) hFc (fun M_7 t H_5 locs ht hvm hw hB hz1 hk1 hS => ?_)
      obtain ⟨hW, hF2, hp_8⟩ := hw
      obtain ⟨hP1, hD1⟩ := hB
      rw [ht] at hP1
      have hP : va_P D vwCl ([(za, (b13_0 z0 z1 (nI z2) (nI z3) z4 z5 z6 z7 z8 z9 (nI z10) z11 z12 z13 z14 z15 (nI z16) z17 z18 z19))] ++ va_pl L M_7) H_5 := hP1
      have hD : va_D A ([(za, (b13_0 z0 z1 (nI z2) (nI z3) z4 z5 z6 z7 z8 z9 (nI z10) z11 z12 z13 z14 z15 (nI z16) z17 z18 z19))] ++ va_pl L M_7) := hD1.mono hFc
      have hF : fr K L [14, 15, 89, 92, 94, 95, 96, 97, 98, 99] M M_7 := hF.tr hF2 (by decide)
      refine lv_iconst (v := 0) hx hb dX13_shares_93 (by decide) ?_
      refine lv_istore (lv' := [(6, .int 0), (0, .ref za), (1, .ref k1), (2, .int (nI k2)), (3, .int (nI k3)), (4, .long k4)]) hx hb dX13_shares_94 hl (by decide) rfl (fun ls hl => ?_)
      have key_9 : ∀ (fu_11 : Nat) (v6w12 : Nat) (M_14 : Hp) (H_15 : Heap) (locs : List Loc) (ls : Array Slot), 24 - v6w12 < fu_11 → v6w12 ≤ 24 → WOM cy K L M_14 → fr K L [14, 15, 89, 92, 94, 95, 96, 97, 98, 99] M M_14 → va_P D vwCl ([(za, (b13_0 z0 z1 (nI z2) (nI z3) z4 z5 z6 z7 z8 z9 (nI z10) z11 z12 z13 z14 z15 (nI z16) z17 z18 z19))] ++ va_pl L M_14) H_15 → va_D A ([(za, (b13_0 z0 z1 (nI z2) (nI z3) z4 z5 z6 z7 z8 z9 (nI z10) z11 z12 z13 z14 z15 (nI z16) z17 z18 z19))] ++ va_pl L M_14) → va_S A s.heap H_15 locs → lv_has ls 7 [(6, .int (nI v6w12)), (0, .ref za), (1, .ref k1), (2, .int (nI k2)), (3, .int (nI k3)), (4, .long k4)] → W p l e R s m ([.ref za, .ref k1, .int (nI k2), .int (nI k3), .long k4] : List Value).toArray below meth c H_15 locs 0 0 Q (F0 m 96 ls []) := by
        intro fu_11
        induction fu_11 with
        | zero => intro v6w12 M_14 H_15 locs ls h; exact absurd h (Nat.not_lt_zero _)
        | succ fu_11 ih_10 =>
          intro v6w12 M_14 H_15 locs ls hfu hx_13 hW hF hP hD hS hl
          refine lv_iload hx hb dX13_shares_96 (lv_at hl 0 rfl) ?_
          refine lv_aload_n hx hb dX13_shares_98 rfl (lv_at hl 1 rfl) ?_
          refine va_get (D := D) (ci := 13) (v := .int (nI z16)) (C := RX13) (T := TX13) (N := 20) hx hb hg inG13 hown hK hP 0 rfl rfl 16 (by decide) (hg _ wd_769) (fun _ h9 => h9) rfl dX13_shares_99 ?_
          refine lv_icmp_ge (tgt := 119) hx hb dX13_shares_102 (by decide) (fun c_16 => ?_) (fun c_16 => ?_)
          · have hz := rfl (a := 0)
            have n_17 : z16 ≤ v6w12 := (iLE (a := z16) (b := v6w12) (by omega) (by omega)).mp c_16
            refine lv_aload_n hx hb dX13_shares_119 rfl (lv_at hl 2 rfl) ?_
            obtain ⟨fs18, hM18, hn18, hl18⟩ := hW.open_12 ik1
            obtain ⟨v19, hv19, hc19⟩ : ∃ v : Nat, fs18[48]? = some (.ref v : Value) ∧ isk K L v 94 120 := hl18 48 (by decide)
            refine pg_getN (D := D) (ci := 12) (v := .ref v19) (C := RX12) (T := TX12) (N := 51) hx hb hg inG12 hown hK hP ik1.1 hM18 rfl 48 (by decide) (hN.use (Cond.fieldLinkNest RX13 304 RX12 "none" "[J" RX13) 57 rfl rfl) (fun _ h9 => h9) hv19 dX13_shares_120 ?_
            refine lv_iload_n hx hb dX13_shares_123 rfl (lv_at hl 3 rfl) ?_
            refine lv_aload_n hx hb dX13_shares_124 rfl (lv_at hl 1 rfl) ?_
            refine lv_aload_n hx hb dX13_shares_125 rfl (lv_at hl 2 rfl) ?_
            refine lv_lload hx hb dX13_shares_126 (lv_at hl 5 rfl) ?_
            refine lv_lneg hx hb dX13_shares_128 ?_
            refine lv_topl (fun f_20 ef_20 => ?_)
            have hPc : va_P D vwCl ([(za, (b13_0 z0 z1 (nI z2) (nI z3) z4 z5 z6 z7 z8 z9 (nI z10) z11 z12 z13 z14 z15 (nI z16) z17 z18 z19))] ++ va_pl L M_14) H_15 := hP
            have hDc : va_D A ([(za, (b13_0 z0 z1 (nI z2) (nI z3) z4 z5 z6 z7 z8 z9 (nI z10) z11 z12 z13 z14 z15 (nI z16) z17 z18 z19))] ++ va_pl L M_14) := hD
            have hFc : ∀ q, va_A ([(za, (b13_0 z0 z1 (nI z2) (nI z3) z4 z5 z6 z7 z8 z9 (nI z10) z11 z12 z13 z14 z15 (nI z16) z17 z18 z19))] ++ va_pl L M_14) H_15.size q → A q := pg_free hDc hS hA
            refine va_calll (va_runV (As := [.ref k1, .long f_20]) (rest := [.int (nI k2), .ref v19]) ⟨hx, hb, hml, hown, hg⟩ (r_X13_bearing l D cy K L M_14 H_15.size za z0 z1 z2 z3 z4 z5 z6 z7 z8 z9 z10 z11 z12 z13 z14 z15 z16 z17 z18 z19 k1 f_20  hW i1 b2 b3 i6 i7 i8 i9 b10 i11 i12 i13 i14 i15 b16 i17 i19 ik1) (cwV 2 hg (gV wd_799 wd_800 wd_801 wd_717 wd_802) rfl rfl rfl (by decide +kernel) ⟨(Nat.le_trans (Nat.le_of_ble_eq_true rfl) hRf), (Nat.le_trans (Nat.le_of_ble_eq_true rfl) hRl)⟩) ⟨PG.blind, va_recv hK hP (ci := 13) (q0 := 0) rfl rfl, fun U hU hW => ⟨rfl, PG.at hPc hK hDc hN hU hW⟩⟩ rfl rfl hl.1 rfl (lv_room (Nat.le_of_ble_eq_true rfl)) dX13_shares_129 ⟨(Nat.le_trans (Nat.le_of_ble_eq_true rfl) hRc), (Nat.le_trans (Nat.le_of_ble_eq_true rfl) hRs)⟩) hS (fun q _ h => hFc q h) hFc (fun r_22 M_23 t H_21 locs ht hvm hw hB hz1 hk1 hS => ?_)
            obtain ⟨hW, hF2, hp_24⟩ := hw
            obtain ⟨hP1, hD1⟩ := hB
            rw [ht] at hP1
            have hP : va_P D vwCl ([(za, (b13_0 z0 z1 (nI z2) (nI z3) z4 z5 z6 z7 z8 z9 (nI z10) z11 z12 z13 z14 z15 (nI z16) z17 z18 z19))] ++ va_pl L M_23) H_21 := hP1
            have hD : va_D A ([(za, (b13_0 z0 z1 (nI z2) (nI z3) z4 z5 z6 z7 z8 z9 (nI z10) z11 z12 z13 z14 z15 (nI z16) z17 z18 z19))] ++ va_pl L M_23) := hD1.mono hFc
            have hM_25 : M_23 k1 = .inr (12, fs18) := (hF2.at ik1 (by decide)).trans hM18
            have hF : fr K L [14, 15, 89, 92, 94, 95, 96, 97, 98, 99] M M_23 := hF.tr hF2 (by decide)
            refine lv_lneg hx hb dX13_shares_132 ?_
            refine lv_topl (fun f_26 ef_26 => ?_)
            obtain ⟨f27, hM27⟩ := hW.open_94 hc19
            refine pg_last hx hb hK hP hD hS hc19.1 1 hM27 rfl (inbN k2 120 (by omega) (by omega)) dX13_shares_133 (fun H_28 locs hP hD hS => ?_)
            obtain ⟨M_29, eM_29⟩ : ∃ M1 : Hp, M1 = va_up M_23 v19 (.inl (cy 15, 120, .inr (.inl (vp_updL f27 ((nI k2) : Int32).toNatClampNeg f_26)))) := ⟨_, rfl⟩
            have hP : va_P D vwCl ([(za, (b13_0 z0 z1 (nI z2) (nI z3) z4 z5 z6 z7 z8 z9 (nI z10) z11 z12 z13 z14 z15 (nI z16) z17 z18 z19))] ++ va_pl L M_29) H_28 := by rw [eM_29]; exact hP
            have hD : va_D A ([(za, (b13_0 z0 z1 (nI z2) (nI z3) z4 z5 z6 z7 z8 z9 (nI z10) z11 z12 z13 z14 z15 (nI z16) z17 z18 z19))] ++ va_pl L M_29) := by rw [eM_29]; exact hD
            have hW : WOM cy K L M_29 := by rw [eM_29]; exact hW.up_94 hc19 ⟨_, rfl⟩
            have hF : fr K L [14, 15, 89, 92, 94, 95, 96, 97, 98, 99] M M_29 := by rw [eM_29]; exact hF.up hc19 (by decide)
            have hM_30 : M_29 v19 = .inl (cy 15, 120, .inr (.inl (vp_updL f27 ((nI k2) : Int32).toNatClampNeg f_26))) := by rw [eM_29]; exact va_up_self _ _ _
            have hM_31 : M_29 k1 = .inr (12, fs18) := by rw [eM_29, va_up_ne _ _ (ik1.neT hc19 (by decide))]; exact hM_25
            obtain ⟨f_32, ef_32⟩ : ∃ f : Nat → Int64, f = vp_updL f27 ((nI k2) : Int32).toNatClampNeg f_26 := ⟨_, rfl⟩
            rw [← ef_32] at hM_30
            clear ef_32
            refine lv_iconst (v := 0) hx hb dX13_shares_134 (by decide) ?_
            refine lv_istore (lv' := [(6, .int 0), (0, .ref za), (1, .ref k1), (2, .int (nI k2)), (3, .int (nI k3)), (4, .long k4)]) hx hb dX13_shares_135 hl (by decide) rfl (fun ls hl => ?_)
            have key_33 : ∀ (fu_35 : Nat) (v6w36 : Nat) (M_38 : Hp) (H_39 : Heap) (locs : List Loc) (ls : Array Slot), 24 - v6w36 < fu_35 → v6w36 ≤ 24 → WOM cy K L M_38 → fr K L [14, 15, 89, 92, 94, 95, 96, 97, 98, 99] M M_38 → va_P D vwCl ([(za, (b13_0 z0 z1 (nI z2) (nI z3) z4 z5 z6 z7 z8 z9 (nI z10) z11 z12 z13 z14 z15 (nI z16) z17 z18 z19))] ++ va_pl L M_38) H_39 → va_D A ([(za, (b13_0 z0 z1 (nI z2) (nI z3) z4 z5 z6 z7 z8 z9 (nI z10) z11 z12 z13 z14 z15 (nI z16) z17 z18 z19))] ++ va_pl L M_38) → va_S A s.heap H_39 locs → lv_has ls 7 [(6, .int (nI v6w36)), (0, .ref za), (1, .ref k1), (2, .int (nI k2)), (3, .int (nI k3)), (4, .long k4)] → W p l e R s m ([.ref za, .ref k1, .int (nI k2), .int (nI k3), .long k4] : List Value).toArray below meth c H_39 locs 0 0 Q (F0 m 137 ls []) := by
              intro fu_35
              induction fu_35 with
              | zero => intro v6w36 M_38 H_39 locs ls h; exact absurd h (Nat.not_lt_zero _)
              | succ fu_35 ih_34 =>
                intro v6w36 M_38 H_39 locs ls hfu hx_37 hW hF hP hD hS hl
                refine lv_iload hx hb dX13_shares_137 (lv_at hl 0 rfl) ?_
                refine lv_aload_n hx hb dX13_shares_139 rfl (lv_at hl 1 rfl) ?_
                refine va_get (D := D) (ci := 13) (v := .int (nI z16)) (C := RX13) (T := TX13) (N := 20) hx hb hg inG13 hown hK hP 0 rfl rfl 16 (by decide) (hg _ wd_769) (fun _ h9 => h9) rfl dX13_shares_140 ?_
                refine lv_icmp_ge (tgt := 195) hx hb dX13_shares_143 (by decide) (fun c_40 => ?_) (fun c_40 => ?_)
                · have hz := rfl (a := 0)
                  have n_41 : z16 ≤ v6w36 := (iLE (a := z16) (b := v6w36) (by omega) (by omega)).mp c_40
                  rw [hQ]
                  exact W.vret hx hb hr (fun t ht hW9 => ⟨⟨M_38, rfl, ⟨hW, hF, trivial⟩, ⟨by rw [ht]; exact hP, hD⟩⟩, hS.F ht⟩) hS.2.2 dX13_shares_195
                · have hz := rfl (a := 0)
                  have n_42 : ¬ (z16 ≤ v6w36) := fun q => c_40 ((iLE (a := z16) (b := v6w36) (by omega) (by omega)).mpr q)
                  refine lv_aload_n hx hb dX13_shares_146 rfl (lv_at hl 2 rfl) ?_
                  obtain ⟨fs43, hM43, hn43, hl43⟩ := hW.open_12 ik1
                  obtain ⟨v44, hv44, hc44⟩ : ∃ v : Nat, fs43[29]? = some (.ref v : Value) ∧ isk K L v 89 24 := hl43 29 (by decide)
                  refine pg_getN (D := D) (ci := 12) (v := .ref v44) (C := RX12) (T := TX12) (N := 51) hx hb hg inG12 hown hK hP ik1.1 hM43 rfl 29 (by decide) (hN.use (Cond.fieldLinkNest RX13 230 RX12 "borne" "[J" RX13) 38 rfl rfl) (fun _ h9 => h9) hv44 dX13_shares_147 ?_
                  refine lv_aload_n hx hb dX13_shares_150 rfl (lv_at hl 1 rfl) ?_
                  refine va_get (D := D) (ci := 13) (v := .ref z11) (C := RX13) (T := TX13) (N := 20) hx hb hg inG13 hown hK hP 0 rfl rfl 11 (by decide) (hg _ wd_764) (fun _ h9 => h9) rfl dX13_shares_151 ?_
                  refine lv_iload hx hb dX13_shares_154 (lv_at hl 0 rfl) ?_
                  obtain ⟨f45, hM45, hf45⟩ := hW.open_32 i11
                  have hi_46 : vp_in (nI v6w36) 24 := (inbN v6w36 24 (by omega) (by omega))
                  refine pg_iald hx hb hK hP i11.1 0 hM45 rfl hi_46 dX13_shares_156 ?_
                  have hp_47 := hf45 _ (vp_lt hi_46)
                  obtain ⟨c_48, hc_49, ec_50⟩ := hp_47
                  rw [ec_50]
                  refine lv_dup2_11 hx hb dX13_shares_157 rfl rfl ?_
                  obtain ⟨f51, hM51⟩ := hW.open_89 hc44
                  refine pg_lald hx hb hK hP hc44.1 1 hM51 rfl (inbN c_48 24 (by omega) (by omega)) dX13_shares_158 ?_
                  refine lv_topl (fun f_52 ef_52 => ?_)
                  refine lv_aload_n hx hb dX13_shares_159 rfl (lv_at hl 1 rfl) ?_
                  refine va_get (D := D) (ci := 13) (v := .ref z13) (C := RX13) (T := TX13) (N := 20) hx hb hg inG13 hown hK hP 0 rfl rfl 13 (by decide) (hg _ wd_789) (fun _ h9 => h9) rfl dX13_shares_160 ?_
                  refine lv_iload hx hb dX13_shares_163 (lv_at hl 0 rfl) ?_
                  obtain ⟨f53, hM53⟩ := hW.open_97 i13
                  refine pg_lald hx hb hK hP i13.1 1 hM53 rfl (inbN v6w36 24 (by omega) (by omega)) dX13_shares_165 ?_
                  refine lv_topl (fun f_54 ef_54 => ?_)
                  refine lv_ladd hx hb dX13_shares_166 ?_
                  refine lv_topl (fun f_55 ef_55 => ?_)
                  refine pg_last hx hb hK hP hD hS hc44.1 1 hM51 rfl (inbN c_48 24 (by omega) (by omega)) dX13_shares_167 (fun H_56 locs hP hD hS => ?_)
                  obtain ⟨M_57, eM_57⟩ : ∃ M1 : Hp, M1 = va_up M_38 v44 (.inl (cy 15, 24, .inr (.inl (vp_updL f51 ((nI c_48) : Int32).toNatClampNeg f_55)))) := ⟨_, rfl⟩
                  have hP : va_P D vwCl ([(za, (b13_0 z0 z1 (nI z2) (nI z3) z4 z5 z6 z7 z8 z9 (nI z10) z11 z12 z13 z14 z15 (nI z16) z17 z18 z19))] ++ va_pl L M_57) H_56 := by rw [eM_57]; exact hP
                  have hD : va_D A ([(za, (b13_0 z0 z1 (nI z2) (nI z3) z4 z5 z6 z7 z8 z9 (nI z10) z11 z12 z13 z14 z15 (nI z16) z17 z18 z19))] ++ va_pl L M_57) := by rw [eM_57]; exact hD
                  have hW : WOM cy K L M_57 := by rw [eM_57]; exact hW.up_89 hc44 ⟨_, rfl⟩
                  have hF : fr K L [14, 15, 89, 92, 94, 95, 96, 97, 98, 99] M M_57 := by rw [eM_57]; exact hF.up hc44 (by decide)
                  have hM_58 : M_57 v44 = .inl (cy 15, 24, .inr (.inl (vp_updL f51 ((nI c_48) : Int32).toNatClampNeg f_55))) := by rw [eM_57]; exact va_up_self _ _ _
                  have hM_59 : M_57 k1 = .inr (12, fs43) := by rw [eM_57, va_up_ne _ _ (ik1.neT hc44 (by decide))]; exact hM43
                  have hM_60 : M_57 z11 = .inl (cy 14, 24, .inl (f45)) := by rw [eM_57, va_up_ne _ _ (i11.neT hc44 (by decide))]; exact hM45
                  have hM_61 : M_57 z13 = .inl (cy 15, 24, .inr (.inl (f53))) := by rw [eM_57, va_up_ne _ _ (i13.neT hc44 (by decide))]; exact hM53
                  obtain ⟨f_62, ef_62⟩ : ∃ f : Nat → Int64, f = vp_updL f51 ((nI c_48) : Int32).toNatClampNeg f_55 := ⟨_, rfl⟩
                  rw [← ef_62] at hM_58
                  clear ef_62
                  refine lv_aload_n hx hb dX13_shares_168 rfl (lv_at hl 1 rfl) ?_
                  refine lv_aload_n hx hb dX13_shares_169 rfl (lv_at hl 2 rfl) ?_
                  refine lv_iload_n hx hb dX13_shares_170 rfl (lv_at hl 3 rfl) ?_
                  refine lv_aload_n hx hb dX13_shares_171 rfl (lv_at hl 1 rfl) ?_
                  refine va_get (D := D) (ci := 13) (v := .ref z11) (C := RX13) (T := TX13) (N := 20) hx hb hg inG13 hown hK hP 0 rfl rfl 11 (by decide) (hg _ wd_764) (fun _ h9 => h9) rfl dX13_shares_172 ?_
                  refine lv_iload hx hb dX13_shares_175 (lv_at hl 0 rfl) ?_
                  have hi_63 : vp_in (nI v6w36) 24 := (inbN v6w36 24 (by omega) (by omega))
                  refine pg_iald hx hb hK hP i11.1 0 hM_60 rfl hi_63 dX13_shares_177 ?_
                  have hp_64 := hf45 _ (vp_lt hi_63)
                  obtain ⟨c_65, hc_66, ec_67⟩ := hp_64
                  rw [ec_67]
                  refine lv_aload_n hx hb dX13_shares_178 rfl (lv_at hl 1 rfl) ?_
                  refine va_get (D := D) (ci := 13) (v := .ref z13) (C := RX13) (T := TX13) (N := 20) hx hb hg inG13 hown hK hP 0 rfl rfl 13 (by decide) (hg _ wd_789) (fun _ h9 => h9) rfl dX13_shares_179 ?_
                  refine lv_iload hx hb dX13_shares_182 (lv_at hl 0 rfl) ?_
                  refine pg_lald hx hb hK hP i13.1 1 hM_61 rfl (inbN v6w36 24 (by omega) (by omega)) dX13_shares_184 ?_
                  refine lv_topl (fun f_68 ef_68 => ?_)
                  refine lv_lneg hx hb dX13_shares_185 ?_
                  refine lv_topl (fun f_69 ef_69 => ?_)
                  have hPc : va_P D vwCl ([(za, (b13_0 z0 z1 (nI z2) (nI z3) z4 z5 z6 z7 z8 z9 (nI z10) z11 z12 z13 z14 z15 (nI z16) z17 z18 z19))] ++ va_pl L M_57) H_56 := hP
                  have hDc : va_D A ([(za, (b13_0 z0 z1 (nI z2) (nI z3) z4 z5 z6 z7 z8 z9 (nI z10) z11 z12 z13 z14 z15 (nI z16) z17 z18 z19))] ++ va_pl L M_57) := hD
                  have hFc : ∀ q, va_A ([(za, (b13_0 z0 z1 (nI z2) (nI z3) z4 z5 z6 z7 z8 z9 (nI z10) z11 z12 z13 z14 z15 (nI z16) z17 z18 z19))] ++ va_pl L M_57) H_56.size q → A q := pg_free hDc hS hA
                  refine va_callv (va_runV (As := [.ref k1, .int (nI k2), .int (nI c_65), .long f_69]) (rest := []) ⟨hx, hb, hml, hown, hg⟩ (r_X13_gives l D cy K L M_57 H_56.size za z0 z1 z2 z3 z4 z5 z6 z7 z8 z9 z10 z11 z12 z13 z14 z15 z16 z17 z18 z19 k1 k2 c_65 f_69  hW i1 b2 b3 i6 i7 i8 i9 b10 i11 i12 i13 i14 i15 b16 i17 i19 ik1 nk2 hc_66) (cwV 4 hg (gV wd_803 wd_804 wd_805 wd_717 wd_806) rfl rfl rfl (by decide +kernel) ⟨(Nat.le_trans (Nat.le_of_ble_eq_true rfl) hRf), (Nat.le_trans (Nat.le_of_ble_eq_true rfl) hRl)⟩) ⟨PG.blind, va_recv hK hP (ci := 13) (q0 := 0) rfl rfl, fun U hU hW => ⟨rfl, PG.at hPc hK hDc hN hU hW⟩⟩ rfl rfl hl.1 rfl (lv_room (Nat.le_of_ble_eq_true rfl)) dX13_shares_186 ⟨(Nat.le_trans (Nat.le_of_ble_eq_true rfl) hRc), (Nat.le_trans (Nat.le_of_ble_eq_true rfl) hRs)⟩) hS (fun q _ h => hFc q h) hFc (fun M_72 t H_70 locs ht hvm hw hB hz1 hk1 hS => ?_)
                  obtain ⟨hW, hF2, hp_73⟩ := hw
                  obtain ⟨hP1, hD1⟩ := hB
                  rw [ht] at hP1
                  have hP : va_P D vwCl ([(za, (b13_0 z0 z1 (nI z2) (nI z3) z4 z5 z6 z7 z8 z9 (nI z10) z11 z12 z13 z14 z15 (nI z16) z17 z18 z19))] ++ va_pl L M_72) H_70 := hP1
                  have hD : va_D A ([(za, (b13_0 z0 z1 (nI z2) (nI z3) z4 z5 z6 z7 z8 z9 (nI z10) z11 z12 z13 z14 z15 (nI z16) z17 z18 z19))] ++ va_pl L M_72) := hD1.mono hFc
                  have hM_74 : M_72 v44 = .inl (cy 15, 24, .inr (.inl (f_62))) := (hF2.at hc44 (by decide)).trans hM_58
                  have hM_75 : M_72 k1 = .inr (12, fs43) := (hF2.at ik1 (by decide)).trans hM_59
                  have hM_76 : M_72 z11 = .inl (cy 14, 24, .inl (f45)) := (hF2.at i11 (by decide)).trans hM_60
                  have hM_77 : M_72 z13 = .inl (cy 15, 24, .inr (.inl (f53))) := (hF2.at i13 (by decide)).trans hM_61
                  have hF : fr K L [14, 15, 89, 92, 94, 95, 96, 97, 98, 99] M M_72 := hF.tr hF2 (by decide)
                  refine lv_iinc (v := (nI (v6w36 + 1))) (lv' := [(6, .int (nI (v6w36 + 1))), (0, .ref za), (1, .ref k1), (2, .int (nI k2)), (3, .int (nI k3)), (4, .long k4)]) hx hb dX13_shares_189 hl (k := 0) rfl (nI_1 v6w36) (by decide) rfl (fun ls hl => ?_)
                  refine lv_goto (tgt := 137) hx hb dX13_shares_192 (by decide) ?_
                  exact ih_34 (v6w36 + 1) M_72 H_70 _ _ (by omega) (by omega) hW hF hP hD hS (lv_sub hl [0, 1, 2, 3, 4, 5] rfl)
            exact key_33 (24 - 0 + 1) 0 M_29 H_28 _ _ (by omega) (by omega) hW hF hP hD hS (lv_sub hl [0, 1, 2, 3, 4, 5] rfl)
          · have hz := rfl (a := 0)
            have n_78 : ¬ (z16 ≤ v6w12) := fun q => c_16 ((iLE (a := z16) (b := v6w12) (by omega) (by omega)).mpr q)
            refine lv_aload_n hx hb dX13_shares_105 rfl (lv_at hl 1 rfl) ?_
            refine va_get (D := D) (ci := 13) (v := .ref z13) (C := RX13) (T := TX13) (N := 20) hx hb hg inG13 hown hK hP 0 rfl rfl 13 (by decide) (hg _ wd_789) (fun _ h9 => h9) rfl dX13_shares_106 ?_
            refine lv_iload hx hb dX13_shares_109 (lv_at hl 0 rfl) ?_
            refine lv_lconst (v := 0) hx hb dX13_shares_111 (by decide) ?_
            obtain ⟨f79, hM79⟩ := hW.open_97 i13
            refine pg_last hx hb hK hP hD hS i13.1 1 hM79 rfl (inbN v6w12 24 (by omega) (by omega)) dX13_shares_112 (fun H_80 locs hP hD hS => ?_)
            obtain ⟨M_81, eM_81⟩ : ∃ M1 : Hp, M1 = va_up M_14 z13 (.inl (cy 15, 24, .inr (.inl (vp_updL f79 ((nI v6w12) : Int32).toNatClampNeg 0)))) := ⟨_, rfl⟩
            have hP : va_P D vwCl ([(za, (b13_0 z0 z1 (nI z2) (nI z3) z4 z5 z6 z7 z8 z9 (nI z10) z11 z12 z13 z14 z15 (nI z16) z17 z18 z19))] ++ va_pl L M_81) H_80 := by rw [eM_81]; exact hP
            have hD : va_D A ([(za, (b13_0 z0 z1 (nI z2) (nI z3) z4 z5 z6 z7 z8 z9 (nI z10) z11 z12 z13 z14 z15 (nI z16) z17 z18 z19))] ++ va_pl L M_81) := by rw [eM_81]; exact hD
            have hW : WOM cy K L M_81 := by rw [eM_81]; exact hW.up_97 i13 ⟨_, rfl⟩
            have hF : fr K L [14, 15, 89, 92, 94, 95, 96, 97, 98, 99] M M_81 := by rw [eM_81]; exact hF.up i13 (by decide)
            have hM_82 : M_81 z13 = .inl (cy 15, 24, .inr (.inl (vp_updL f79 ((nI v6w12) : Int32).toNatClampNeg 0))) := by rw [eM_81]; exact va_up_self _ _ _
            obtain ⟨f_83, ef_83⟩ : ∃ f : Nat → Int64, f = vp_updL f79 ((nI v6w12) : Int32).toNatClampNeg 0 := ⟨_, rfl⟩
            rw [← ef_83] at hM_82
            clear ef_83
            refine lv_iinc (v := (nI (v6w12 + 1))) (lv' := [(6, .int (nI (v6w12 + 1))), (0, .ref za), (1, .ref k1), (2, .int (nI k2)), (3, .int (nI k3)), (4, .long k4)]) hx hb dX13_shares_113 hl (k := 0) rfl (nI_1 v6w12) (by decide) rfl (fun ls hl => ?_)
            refine lv_goto (tgt := 96) hx hb dX13_shares_116 (by decide) ?_
            exact ih_10 (v6w12 + 1) M_81 H_80 _ _ (by omega) (by omega) hW hF hP hD hS (lv_sub hl [0, 1, 2, 3, 4, 5] rfl)
      exact key_9 (24 - 0 + 1) 0 M_7 H_5 _ _ (by omega) (by omega) hW hF hP hD hS (lv_sub hl [0, 1, 2, 3, 4, 5] rfl)
  · have hz := rfl (a := 0)
    have d_2 : ¬ k4 ≤ 0 := lc_lef c_1
    refine lv_aload_n hx hb dX13_shares_7 rfl (lv_at hl 0 rfl) ?_
    refine lv_aload_n hx hb dX13_shares_8 rfl (lv_at hl 1 rfl) ?_
    refine lv_iload_n hx hb dX13_shares_9 rfl (lv_at hl 3 rfl) ?_
    refine lv_iconst (v := 2) hx hb dX13_shares_10 (by decide) ?_
    have hPc : va_P D vwCl ([(za, (b13_0 z0 z1 (nI z2) (nI z3) z4 z5 z6 z7 z8 z9 (nI z10) z11 z12 z13 z14 z15 (nI z16) z17 z18 z19))] ++ va_pl L M) s.heap := hP
    have hDc : va_D A ([(za, (b13_0 z0 z1 (nI z2) (nI z3) z4 z5 z6 z7 z8 z9 (nI z10) z11 z12 z13 z14 z15 (nI z16) z17 z18 z19))] ++ va_pl L M) := hD
    have hFc : ∀ q, va_A ([(za, (b13_0 z0 z1 (nI z2) (nI z3) z4 z5 z6 z7 z8 z9 (nI z10) z11 z12 z13 z14 z15 (nI z16) z17 z18 z19))] ++ va_pl L M) s.heap.size q → A q := pg_free hDc hS hA
    refine va_callv (va_runV (As := [.ref k1, .int (nI k3), .int 2]) (rest := []) ⟨hx, hb, hml, hown, hg⟩ (r_X13_weights l D cy K L M s.heap.size za z0 z1 z2 z3 z4 z5 z6 z7 z8 z9 z10 z11 z12 z13 z14 z15 z16 z17 z18 z19 k1 k3 2  hW i1 b2 b3 i6 i7 i8 i9 b10 i11 i12 i13 i14 i15 b16 i17 i19 ik1 nk3 (by omega)) (cwV 3 hg (gV wd_795 wd_796 wd_797 wd_717 wd_798) rfl rfl rfl (by decide +kernel) ⟨(Nat.le_trans (Nat.le_of_ble_eq_true rfl) hRf), (Nat.le_trans (Nat.le_of_ble_eq_true rfl) hRl)⟩) ⟨PG.blind, va_recv hK hP (ci := 13) (q0 := 0) rfl rfl, fun U hU hW => ⟨rfl, PG.at hPc hK hDc hN hU hW⟩⟩ rfl rfl hl.1 rfl (lv_room (Nat.le_of_ble_eq_true rfl)) dX13_shares_11 ⟨(Nat.le_trans (Nat.le_of_ble_eq_true rfl) hRc), (Nat.le_trans (Nat.le_of_ble_eq_true rfl) hRs)⟩) hS (fun q _ h => hFc q h) hFc (fun M_86 t H_84 locs ht hvm hw hB hz1 hk1 hS => ?_)
    obtain ⟨hW, hF2, hp_87⟩ := hw
    obtain ⟨hP1, hD1⟩ := hB
    rw [ht] at hP1
    have hP : va_P D vwCl ([(za, (b13_0 z0 z1 (nI z2) (nI z3) z4 z5 z6 z7 z8 z9 (nI z10) z11 z12 z13 z14 z15 (nI z16) z17 z18 z19))] ++ va_pl L M_86) H_84 := hP1
    have hD : va_D A ([(za, (b13_0 z0 z1 (nI z2) (nI z3) z4 z5 z6 z7 z8 z9 (nI z10) z11 z12 z13 z14 z15 (nI z16) z17 z18 z19))] ++ va_pl L M_86) := hD1.mono hFc
    have hF : fr K L [14, 15, 89, 92, 94, 95, 96, 97, 98, 99] M M_86 := hF.tr hF2 (by decide)
    refine lv_aload_n hx hb dX13_shares_14 rfl (lv_at hl 0 rfl) ?_
    refine lv_lload hx hb dX13_shares_15 (lv_at hl 4 rfl) ?_
    refine lv_aload_n hx hb dX13_shares_17 rfl (lv_at hl 0 rfl) ?_
    refine va_get (D := D) (ci := 13) (v := .ref z13) (C := RX13) (T := TX13) (N := 20) hx hb hg inG13 hown hK hP 0 rfl rfl 13 (by decide) (hg _ wd_789) (fun _ h9 => h9) rfl dX13_shares_18 ?_
    refine lv_iconst (v := 0) hx hb dX13_shares_21 (by decide) ?_
    refine lv_aload_n hx hb dX13_shares_22 rfl (lv_at hl 1 rfl) ?_
    have hPc : va_P D vwCl ([(za, (b13_0 z0 z1 (nI z2) (nI z3) z4 z5 z6 z7 z8 z9 (nI z10) z11 z12 z13 z14 z15 (nI z16) z17 z18 z19))] ++ va_pl L M_86) H_84 := hP
    have hDc : va_D A ([(za, (b13_0 z0 z1 (nI z2) (nI z3) z4 z5 z6 z7 z8 z9 (nI z10) z11 z12 z13 z14 z15 (nI z16) z17 z18 z19))] ++ va_pl L M_86) := hD
    have hFc : ∀ q, va_A ([(za, (b13_0 z0 z1 (nI z2) (nI z3) z4 z5 z6 z7 z8 z9 (nI z10) z11 z12 z13 z14 z15 (nI z16) z17 z18 z19))] ++ va_pl L M_86) H_84.size q → A q := pg_free hDc hS hA
    refine va_calli (va_runV (As := [.long k4, .ref z13, .int 0, .ref k1]) (rest := []) ⟨hx, hb, hml, hown, hg⟩ (r_X13_cut_97 l D cy K L M_86 H_84.size za z0 z1 z2 z3 z4 z5 z6 z7 z8 z9 z10 z11 z12 z13 z14 z15 z16 z17 z18 z19 k4 z13 0 k1  hW i1 b2 b3 i6 i7 i8 i9 b10 i11 i12 i13 i14 i15 b16 i17 i19 i13 ik1) (cwV 4 hg (gV wd_790 wd_791 wd_792 wd_717 wd_793) rfl rfl rfl (by decide +kernel) ⟨(Nat.le_trans (Nat.le_of_ble_eq_true rfl) hRf), (Nat.le_trans (Nat.le_of_ble_eq_true rfl) hRl)⟩) ⟨PG.blind, va_recv hK hP (ci := 13) (q0 := 0) rfl rfl, fun U hU hW => ⟨rfl, PG.at hPc hK hDc hN hU hW⟩⟩ rfl rfl hl.1 rfl (lv_room (Nat.le_of_ble_eq_true rfl)) dX13_shares_23 ⟨(Nat.le_trans (Nat.le_of_ble_eq_true rfl) hRc), (Nat.le_trans (Nat.le_of_ble_eq_true rfl) hRs)⟩) hS (fun q _ h => hFc q h) hFc (fun r_89 M_90 t H_88 locs ht hvm hw hB hz1 hk1 hS => ?_)
    obtain ⟨hW, hF2, hp_91⟩ := hw
    obtain ⟨hP1, hD1⟩ := hB
    rw [ht] at hP1
    have hP : va_P D vwCl ([(za, (b13_0 z0 z1 (nI z2) (nI z3) z4 z5 z6 z7 z8 z9 (nI z10) z11 z12 z13 z14 z15 (nI z16) z17 z18 z19))] ++ va_pl L M_90) H_88 := hP1
    have hD : va_D A ([(za, (b13_0 z0 z1 (nI z2) (nI z3) z4 z5 z6 z7 z8 z9 (nI z10) z11 z12 z13 z14 z15 (nI z16) z17 z18 z19))] ++ va_pl L M_90) := hD1.mono hFc
    have hF : fr K L [14, 15, 89, 92, 94, 95, 96, 97, 98, 99] M M_90 := hF.tr hF2 (by decide)
    rcases hp_91 with rfl | rfl
    · have hz := rfl (a := 0)
      refine lv_if_ne (tgt := 38) hx hb dX13_shares_26 (by decide) (fun _ => ?_) (fun c_92 => absurd c_92 (by decide))
      refine lv_iconst (v := 0) hx hb dX13_shares_38 (by decide) ?_
      refine lv_istore (lv' := [(6, .int 0), (0, .ref za), (1, .ref k1), (2, .int (nI k2)), (3, .int (nI k3)), (4, .long k4)]) hx hb dX13_shares_39 hl (by decide) rfl (fun ls hl => ?_)
      have key_93 : ∀ (fu_95 : Nat) (v6w96 : Nat) (M_98 : Hp) (H_99 : Heap) (locs : List Loc) (ls : Array Slot), 24 - v6w96 < fu_95 → v6w96 ≤ 24 → WOM cy K L M_98 → fr K L [14, 15, 89, 92, 94, 95, 96, 97, 98, 99] M M_98 → va_P D vwCl ([(za, (b13_0 z0 z1 (nI z2) (nI z3) z4 z5 z6 z7 z8 z9 (nI z10) z11 z12 z13 z14 z15 (nI z16) z17 z18 z19))] ++ va_pl L M_98) H_99 → va_D A ([(za, (b13_0 z0 z1 (nI z2) (nI z3) z4 z5 z6 z7 z8 z9 (nI z10) z11 z12 z13 z14 z15 (nI z16) z17 z18 z19))] ++ va_pl L M_98) → va_S A s.heap H_99 locs → lv_has ls 7 [(6, .int (nI v6w96)), (0, .ref za), (1, .ref k1), (2, .int (nI k2)), (3, .int (nI k3)), (4, .long k4)] → W p l e R s m ([.ref za, .ref k1, .int (nI k2), .int (nI k3), .long k4] : List Value).toArray below meth c H_99 locs 0 0 Q (F0 m 41 ls []) := by
        intro fu_95
        induction fu_95 with
        | zero => intro v6w96 M_98 H_99 locs ls h; exact absurd h (Nat.not_lt_zero _)
        | succ fu_95 ih_94 =>
          intro v6w96 M_98 H_99 locs ls hfu hx_97 hW hF hP hD hS hl
          refine lv_iload hx hb dX13_shares_41 (lv_at hl 0 rfl) ?_
          refine lv_aload_n hx hb dX13_shares_43 rfl (lv_at hl 1 rfl) ?_
          refine va_get (D := D) (ci := 13) (v := .int (nI z16)) (C := RX13) (T := TX13) (N := 20) hx hb hg inG13 hown hK hP 0 rfl rfl 16 (by decide) (hg _ wd_769) (fun _ h9 => h9) rfl dX13_shares_44 ?_
          refine lv_icmp_ge (tgt := 76) hx hb dX13_shares_47 (by decide) (fun c_100 => ?_) (fun c_100 => ?_)
          · have hz := rfl (a := 0)
            have n_101 : z16 ≤ v6w96 := (iLE (a := z16) (b := v6w96) (by omega) (by omega)).mp c_100
            refine lv_goto (tgt := 195) hx hb dX13_shares_76 (by decide) ?_
            rw [hQ]
            exact W.vret hx hb hr (fun t ht hW9 => ⟨⟨M_98, rfl, ⟨hW, hF, trivial⟩, ⟨by rw [ht]; exact hP, hD⟩⟩, hS.F ht⟩) hS.2.2 dX13_shares_195
          · have hz := rfl (a := 0)
            have n_102 : ¬ (z16 ≤ v6w96) := fun q => c_100 ((iLE (a := z16) (b := v6w96) (by omega) (by omega)).mpr q)
            refine lv_aload_n hx hb dX13_shares_50 rfl (lv_at hl 1 rfl) ?_
            refine lv_aload_n hx hb dX13_shares_51 rfl (lv_at hl 2 rfl) ?_
            refine lv_iload_n hx hb dX13_shares_52 rfl (lv_at hl 3 rfl) ?_
            refine lv_aload_n hx hb dX13_shares_53 rfl (lv_at hl 1 rfl) ?_
            refine va_get (D := D) (ci := 13) (v := .ref z11) (C := RX13) (T := TX13) (N := 20) hx hb hg inG13 hown hK hP 0 rfl rfl 11 (by decide) (hg _ wd_764) (fun _ h9 => h9) rfl dX13_shares_54 ?_
            refine lv_iload hx hb dX13_shares_57 (lv_at hl 0 rfl) ?_
            obtain ⟨f103, hM103, hf103⟩ := hW.open_32 i11
            have hi_104 : vp_in (nI v6w96) 24 := (inbN v6w96 24 (by omega) (by omega))
            refine pg_iald hx hb hK hP i11.1 0 hM103 rfl hi_104 dX13_shares_59 ?_
            have hp_105 := hf103 _ (vp_lt hi_104)
            obtain ⟨c_106, hc_107, ec_108⟩ := hp_105
            rw [ec_108]
            refine lv_aload_n hx hb dX13_shares_60 rfl (lv_at hl 1 rfl) ?_
            refine va_get (D := D) (ci := 13) (v := .ref z13) (C := RX13) (T := TX13) (N := 20) hx hb hg inG13 hown hK hP 0 rfl rfl 13 (by decide) (hg _ wd_789) (fun _ h9 => h9) rfl dX13_shares_61 ?_
            refine lv_iload hx hb dX13_shares_64 (lv_at hl 0 rfl) ?_
            obtain ⟨f109, hM109⟩ := hW.open_97 i13
            refine pg_lald hx hb hK hP i13.1 1 hM109 rfl (inbN v6w96 24 (by omega) (by omega)) dX13_shares_66 ?_
            refine lv_topl (fun f_110 ef_110 => ?_)
            have hPc : va_P D vwCl ([(za, (b13_0 z0 z1 (nI z2) (nI z3) z4 z5 z6 z7 z8 z9 (nI z10) z11 z12 z13 z14 z15 (nI z16) z17 z18 z19))] ++ va_pl L M_98) H_99 := hP
            have hDc : va_D A ([(za, (b13_0 z0 z1 (nI z2) (nI z3) z4 z5 z6 z7 z8 z9 (nI z10) z11 z12 z13 z14 z15 (nI z16) z17 z18 z19))] ++ va_pl L M_98) := hD
            have hFc : ∀ q, va_A ([(za, (b13_0 z0 z1 (nI z2) (nI z3) z4 z5 z6 z7 z8 z9 (nI z10) z11 z12 z13 z14 z15 (nI z16) z17 z18 z19))] ++ va_pl L M_98) H_99.size q → A q := pg_free hDc hS hA
            refine va_callv (va_runV (As := [.ref k1, .int (nI k2), .int (nI c_106), .long f_110]) (rest := []) ⟨hx, hb, hml, hown, hg⟩ (r_X13_gives l D cy K L M_98 H_99.size za z0 z1 z2 z3 z4 z5 z6 z7 z8 z9 z10 z11 z12 z13 z14 z15 z16 z17 z18 z19 k1 k2 c_106 f_110  hW i1 b2 b3 i6 i7 i8 i9 b10 i11 i12 i13 i14 i15 b16 i17 i19 ik1 nk2 hc_107) (cwV 4 hg (gV wd_803 wd_804 wd_805 wd_717 wd_806) rfl rfl rfl (by decide +kernel) ⟨(Nat.le_trans (Nat.le_of_ble_eq_true rfl) hRf), (Nat.le_trans (Nat.le_of_ble_eq_true rfl) hRl)⟩) ⟨PG.blind, va_recv hK hP (ci := 13) (q0 := 0) rfl rfl, fun U hU hW => ⟨rfl, PG.at hPc hK hDc hN hU hW⟩⟩ rfl rfl hl.1 rfl (lv_room (Nat.le_of_ble_eq_true rfl)) dX13_shares_67 ⟨(Nat.le_trans (Nat.le_of_ble_eq_true rfl) hRc), (Nat.le_trans (Nat.le_of_ble_eq_true rfl) hRs)⟩) hS (fun q _ h => hFc q h) hFc (fun M_113 t H_111 locs ht hvm hw hB hz1 hk1 hS => ?_)
            obtain ⟨hW, hF2, hp_114⟩ := hw
            obtain ⟨hP1, hD1⟩ := hB
            rw [ht] at hP1
            have hP : va_P D vwCl ([(za, (b13_0 z0 z1 (nI z2) (nI z3) z4 z5 z6 z7 z8 z9 (nI z10) z11 z12 z13 z14 z15 (nI z16) z17 z18 z19))] ++ va_pl L M_113) H_111 := hP1
            have hD : va_D A ([(za, (b13_0 z0 z1 (nI z2) (nI z3) z4 z5 z6 z7 z8 z9 (nI z10) z11 z12 z13 z14 z15 (nI z16) z17 z18 z19))] ++ va_pl L M_113) := hD1.mono hFc
            have hM_115 : M_113 z11 = .inl (cy 14, 24, .inl (f103)) := (hF2.at i11 (by decide)).trans hM103
            have hM_116 : M_113 z13 = .inl (cy 15, 24, .inr (.inl (f109))) := (hF2.at i13 (by decide)).trans hM109
            have hF : fr K L [14, 15, 89, 92, 94, 95, 96, 97, 98, 99] M M_113 := hF.tr hF2 (by decide)
            refine lv_iinc (v := (nI (v6w96 + 1))) (lv' := [(6, .int (nI (v6w96 + 1))), (0, .ref za), (1, .ref k1), (2, .int (nI k2)), (3, .int (nI k3)), (4, .long k4)]) hx hb dX13_shares_70 hl (k := 0) rfl (nI_1 v6w96) (by decide) rfl (fun ls hl => ?_)
            refine lv_goto (tgt := 41) hx hb dX13_shares_73 (by decide) ?_
            exact ih_94 (v6w96 + 1) M_113 H_111 _ _ (by omega) (by omega) hW hF hP hD hS (lv_sub hl [0, 1, 2, 3, 4, 5] rfl)
      exact key_93 (24 - 0 + 1) 0 M_90 H_88 _ _ (by omega) (by omega) hW hF hP hD hS (lv_sub hl [0, 1, 2, 3, 4, 5] rfl)
    · have hz := rfl (a := 0)
      refine lv_if_ne (tgt := 38) hx hb dX13_shares_26 (by decide) (fun c_117 => absurd c_117 (by decide)) (fun _ => ?_)
      refine lv_aload_n hx hb dX13_shares_29 rfl (lv_at hl 1 rfl) ?_
      obtain ⟨fs118, hM118, hn118, hl118⟩ := hW.open_12 ik1
      obtain ⟨v119, hv119, hc119⟩ : ∃ v : Nat, fs118[48]? = some (.ref v : Value) ∧ isk K L v 94 120 := hl118 48 (by decide)
      refine pg_getN (D := D) (ci := 12) (v := .ref v119) (C := RX12) (T := TX12) (N := 51) hx hb hg inG12 hown hK hP ik1.1 hM118 rfl 48 (by decide) (hN.use (Cond.fieldLinkNest RX13 304 RX12 "none" "[J" RX13) 57 rfl rfl) (fun _ h9 => h9) hv119 dX13_shares_30 ?_
      refine lv_iload_n hx hb dX13_shares_33 rfl (lv_at hl 2 rfl) ?_
      refine lv_lload hx hb dX13_shares_34 (lv_at hl 4 rfl) ?_
      obtain ⟨f120, hM120⟩ := hW.open_94 hc119
      refine pg_last hx hb hK hP hD hS hc119.1 1 hM120 rfl (inbN k2 120 (by omega) (by omega)) dX13_shares_36 (fun H_121 locs hP hD hS => ?_)
      obtain ⟨M_122, eM_122⟩ : ∃ M1 : Hp, M1 = va_up M_90 v119 (.inl (cy 15, 120, .inr (.inl (vp_updL f120 ((nI k2) : Int32).toNatClampNeg k4)))) := ⟨_, rfl⟩
      have hP : va_P D vwCl ([(za, (b13_0 z0 z1 (nI z2) (nI z3) z4 z5 z6 z7 z8 z9 (nI z10) z11 z12 z13 z14 z15 (nI z16) z17 z18 z19))] ++ va_pl L M_122) H_121 := by rw [eM_122]; exact hP
      have hD : va_D A ([(za, (b13_0 z0 z1 (nI z2) (nI z3) z4 z5 z6 z7 z8 z9 (nI z10) z11 z12 z13 z14 z15 (nI z16) z17 z18 z19))] ++ va_pl L M_122) := by rw [eM_122]; exact hD
      have hW : WOM cy K L M_122 := by rw [eM_122]; exact hW.up_94 hc119 ⟨_, rfl⟩
      have hF : fr K L [14, 15, 89, 92, 94, 95, 96, 97, 98, 99] M M_122 := by rw [eM_122]; exact hF.up hc119 (by decide)
      have hM_123 : M_122 v119 = .inl (cy 15, 120, .inr (.inl (vp_updL f120 ((nI k2) : Int32).toNatClampNeg k4))) := by rw [eM_122]; exact va_up_self _ _ _
      have hM_124 : M_122 k1 = .inr (12, fs118) := by rw [eM_122, va_up_ne _ _ (ik1.neT hc119 (by decide))]; exact hM118
      obtain ⟨f_125, ef_125⟩ : ∃ f : Nat → Int64, f = vp_updL f120 ((nI k2) : Int32).toNatClampNeg k4 := ⟨_, rfl⟩
      rw [← ef_125] at hM_123
      clear ef_125
      rw [hQ]
      exact W.vret hx hb hr (fun t ht hW9 => ⟨⟨M_122, rfl, ⟨hW, hF, trivial⟩, ⟨by rw [ht]; exact hP, hD⟩⟩, hS.F ht⟩) hS.2.2 dX13_shares_37
