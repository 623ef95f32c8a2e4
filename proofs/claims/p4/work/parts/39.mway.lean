theorem dX13_way_0 : decode cX13_way 0 = .ok (.iconst 0, 1) := by decide +kernel
theorem dX13_way_1 : decode cX13_way 1 = .ok (.istore_n 3, 1) := by decide +kernel
theorem dX13_way_2 : decode cX13_way 2 = .ok (.iload_n 3, 1) := by decide +kernel
theorem dX13_way_3 : decode cX13_way 3 = .ok (.bipush 8, 2) := by decide +kernel
theorem dX13_way_5 : decode cX13_way 5 = .ok (.if_icmp .ge 26, 3) := by decide +kernel
theorem dX13_way_8 : decode cX13_way 8 = .ok (.aload_n 0, 1) := by decide +kernel
theorem dX13_way_9 : decode cX13_way 9 = .ok (.getfield 30, 3) := by decide +kernel
theorem dX13_way_12 : decode cX13_way 12 = .ok (.iload_n 3, 1) := by decide +kernel
theorem dX13_way_13 : decode cX13_way 13 = .ok (.iload_n 3, 1) := by decide +kernel
theorem dX13_way_14 : decode cX13_way 14 = .ok (.iload_n 2, 1) := by decide +kernel
theorem dX13_way_15 : decode cX13_way 15 = .ok (.if_icmp .ne 7, 3) := by decide +kernel
theorem dX13_way_18 : decode cX13_way 18 = .ok (.iconst 0, 1) := by decide +kernel
theorem dX13_way_19 : decode cX13_way 19 = .ok (.goto 5, 3) := by decide +kernel
theorem dX13_way_22 : decode cX13_way 22 = .ok (.bipush 100, 2) := by decide +kernel
theorem dX13_way_24 : decode cX13_way 24 = .ok (.iastore, 1) := by decide +kernel
theorem dX13_way_25 : decode cX13_way 25 = .ok (.iinc 3 1, 3) := by decide +kernel
theorem dX13_way_28 : decode cX13_way 28 = .ok (.goto (-26), 3) := by decide +kernel
theorem dX13_way_31 : decode cX13_way 31 = .ok (.iconst 0, 1) := by decide +kernel
theorem dX13_way_32 : decode cX13_way 32 = .ok (.istore_n 3, 1) := by decide +kernel
theorem dX13_way_33 : decode cX13_way 33 = .ok (.iload_n 3, 1) := by decide +kernel
theorem dX13_way_34 : decode cX13_way 34 = .ok (.bipush 8, 2) := by decide +kernel
theorem dX13_way_36 : decode cX13_way 36 = .ok (.if_icmp .ge 91, 3) := by decide +kernel
theorem dX13_way_39 : decode cX13_way 39 = .ok (.iconst 0, 1) := by decide +kernel
theorem dX13_way_40 : decode cX13_way 40 = .ok (.istore 4, 2) := by decide +kernel
theorem dX13_way_42 : decode cX13_way 42 = .ok (.iload 4, 2) := by decide +kernel
theorem dX13_way_44 : decode cX13_way 44 = .ok (.aload_n 0, 1) := by decide +kernel
theorem dX13_way_45 : decode cX13_way 45 = .ok (.getfield 61, 3) := by decide +kernel
theorem dX13_way_48 : decode cX13_way 48 = .ok (.if_icmp .ge 73, 3) := by decide +kernel
theorem dX13_way_51 : decode cX13_way 51 = .ok (.iconst 0, 1) := by decide +kernel
theorem dX13_way_52 : decode cX13_way 52 = .ok (.istore 5, 2) := by decide +kernel
theorem dX13_way_54 : decode cX13_way 54 = .ok (.iload 5, 2) := by decide +kernel
theorem dX13_way_56 : decode cX13_way 56 = .ok (.aload_n 0, 1) := by decide +kernel
theorem dX13_way_57 : decode cX13_way 57 = .ok (.getfield 61, 3) := by decide +kernel
theorem dX13_way_60 : decode cX13_way 60 = .ok (.if_icmp .ge 55, 3) := by decide +kernel
theorem dX13_way_63 : decode cX13_way 63 = .ok (.aload_n 0, 1) := by decide +kernel
theorem dX13_way_64 : decode cX13_way 64 = .ok (.getfield 30, 3) := by decide +kernel
theorem dX13_way_67 : decode cX13_way 67 = .ok (.iload 5, 2) := by decide +kernel
theorem dX13_way_69 : decode cX13_way 69 = .ok (.iaload, 1) := by decide +kernel
theorem dX13_way_70 : decode cX13_way 70 = .ok (.iconst 1, 1) := by decide +kernel
theorem dX13_way_71 : decode cX13_way 71 = .ok (.iadd, 1) := by decide +kernel
theorem dX13_way_72 : decode cX13_way 72 = .ok (.aload_n 0, 1) := by decide +kernel
theorem dX13_way_73 : decode cX13_way 73 = .ok (.getfield 30, 3) := by decide +kernel
theorem dX13_way_76 : decode cX13_way 76 = .ok (.iload 4, 2) := by decide +kernel
theorem dX13_way_78 : decode cX13_way 78 = .ok (.iaload, 1) := by decide +kernel
theorem dX13_way_79 : decode cX13_way 79 = .ok (.if_icmp .ge 30, 3) := by decide +kernel
theorem dX13_way_82 : decode cX13_way 82 = .ok (.aload_n 0, 1) := by decide +kernel
theorem dX13_way_83 : decode cX13_way 83 = .ok (.iload 4, 2) := by decide +kernel
theorem dX13_way_85 : decode cX13_way 85 = .ok (.iload 5, 2) := by decide +kernel
theorem dX13_way_87 : decode cX13_way 87 = .ok (.invokevirtual 107, 3) := by decide +kernel
theorem dX13_way_90 : decode cX13_way 90 = .ok (.ifCond .eq 19, 3) := by decide +kernel
theorem dX13_way_93 : decode cX13_way 93 = .ok (.aload_n 0, 1) := by decide +kernel
theorem dX13_way_94 : decode cX13_way 94 = .ok (.getfield 30, 3) := by decide +kernel
theorem dX13_way_97 : decode cX13_way 97 = .ok (.iload 4, 2) := by decide +kernel
theorem dX13_way_99 : decode cX13_way 99 = .ok (.aload_n 0, 1) := by decide +kernel
theorem dX13_way_100 : decode cX13_way 100 = .ok (.getfield 30, 3) := by decide +kernel
theorem dX13_way_103 : decode cX13_way 103 = .ok (.iload 5, 2) := by decide +kernel
theorem dX13_way_105 : decode cX13_way 105 = .ok (.iaload, 1) := by decide +kernel
theorem dX13_way_106 : decode cX13_way 106 = .ok (.iconst 1, 1) := by decide +kernel
theorem dX13_way_107 : decode cX13_way 107 = .ok (.iadd, 1) := by decide +kernel
theorem dX13_way_108 : decode cX13_way 108 = .ok (.iastore, 1) := by decide +kernel
theorem dX13_way_109 : decode cX13_way 109 = .ok (.iinc 5 1, 3) := by decide +kernel
theorem dX13_way_112 : decode cX13_way 112 = .ok (.goto (-58), 3) := by decide +kernel
theorem dX13_way_115 : decode cX13_way 115 = .ok (.iinc 4 1, 3) := by decide +kernel
theorem dX13_way_118 : decode cX13_way 118 = .ok (.goto (-76), 3) := by decide +kernel
theorem dX13_way_121 : decode cX13_way 121 = .ok (.iinc 3 1, 3) := by decide +kernel
theorem dX13_way_124 : decode cX13_way 124 = .ok (.goto (-91), 3) := by decide +kernel
theorem dX13_way_127 : decode cX13_way 127 = .ok (.aload_n 0, 1) := by decide +kernel
theorem dX13_way_128 : decode cX13_way 128 = .ok (.getfield 30, 3) := by decide +kernel
theorem dX13_way_131 : decode cX13_way 131 = .ok (.iload_n 1, 1) := by decide +kernel
theorem dX13_way_132 : decode cX13_way 132 = .ok (.iaload, 1) := by decide +kernel
theorem dX13_way_133 : decode cX13_way 133 = .ok (.bipush 100, 2) := by decide +kernel
theorem dX13_way_135 : decode cX13_way 135 = .ok (.if_icmp .lt 5, 3) := by decide +kernel
theorem dX13_way_138 : decode cX13_way 138 = .ok (.iconst 0, 1) := by decide +kernel
theorem dX13_way_139 : decode cX13_way 139 = .ok (.ireturn, 1) := by decide +kernel
theorem dX13_way_140 : decode cX13_way 140 = .ok (.iconst 0, 1) := by decide +kernel
theorem dX13_way_141 : decode cX13_way 141 = .ok (.istore_n 3, 1) := by decide +kernel
theorem dX13_way_142 : decode cX13_way 142 = .ok (.iload_n 1, 1) := by decide +kernel
theorem dX13_way_143 : decode cX13_way 143 = .ok (.istore 4, 2) := by decide +kernel
theorem dX13_way_145 : decode cX13_way 145 = .ok (.aload_n 0, 1) := by decide +kernel
theorem dX13_way_146 : decode cX13_way 146 = .ok (.getfield 27, 3) := by decide +kernel
theorem dX13_way_149 : decode cX13_way 149 = .ok (.iconst 0, 1) := by decide +kernel
theorem dX13_way_150 : decode cX13_way 150 = .ok (.iload 4, 2) := by decide +kernel
theorem dX13_way_152 : decode cX13_way 152 = .ok (.iastore, 1) := by decide +kernel
theorem dX13_way_153 : decode cX13_way 153 = .ok (.iload 4, 2) := by decide +kernel
theorem dX13_way_155 : decode cX13_way 155 = .ok (.iload_n 2, 1) := by decide +kernel
theorem dX13_way_156 : decode cX13_way 156 = .ok (.if_icmp .eq 60, 3) := by decide +kernel
theorem dX13_way_159 : decode cX13_way 159 = .ok (.iconst 0, 1) := by decide +kernel
theorem dX13_way_160 : decode cX13_way 160 = .ok (.istore 5, 2) := by decide +kernel
theorem dX13_way_162 : decode cX13_way 162 = .ok (.aload_n 0, 1) := by decide +kernel
theorem dX13_way_163 : decode cX13_way 163 = .ok (.getfield 30, 3) := by decide +kernel
theorem dX13_way_166 : decode cX13_way 166 = .ok (.iload 5, 2) := by decide +kernel
theorem dX13_way_168 : decode cX13_way 168 = .ok (.iaload, 1) := by decide +kernel
theorem dX13_way_169 : decode cX13_way 169 = .ok (.aload_n 0, 1) := by decide +kernel
theorem dX13_way_170 : decode cX13_way 170 = .ok (.getfield 30, 3) := by decide +kernel
theorem dX13_way_173 : decode cX13_way 173 = .ok (.iload 4, 2) := by decide +kernel
theorem dX13_way_175 : decode cX13_way 175 = .ok (.iaload, 1) := by decide +kernel
theorem dX13_way_176 : decode cX13_way 176 = .ok (.iconst 1, 1) := by decide +kernel
theorem dX13_way_177 : decode cX13_way 177 = .ok (.isub, 1) := by decide +kernel
theorem dX13_way_178 : decode cX13_way 178 = .ok (.if_icmp .ne 14, 3) := by decide +kernel
theorem dX13_way_181 : decode cX13_way 181 = .ok (.aload_n 0, 1) := by decide +kernel
theorem dX13_way_182 : decode cX13_way 182 = .ok (.iload 4, 2) := by decide +kernel
theorem dX13_way_184 : decode cX13_way 184 = .ok (.iload 5, 2) := by decide +kernel
theorem dX13_way_186 : decode cX13_way 186 = .ok (.invokevirtual 107, 3) := by decide +kernel
theorem dX13_way_189 : decode cX13_way 189 = .ok (.ifCond .ne 9, 3) := by decide +kernel
theorem dX13_way_192 : decode cX13_way 192 = .ok (.iinc 5 1, 3) := by decide +kernel
theorem dX13_way_195 : decode cX13_way 195 = .ok (.goto (-33), 3) := by decide +kernel
theorem dX13_way_198 : decode cX13_way 198 = .ok (.iload 5, 2) := by decide +kernel
theorem dX13_way_200 : decode cX13_way 200 = .ok (.istore 4, 2) := by decide +kernel
theorem dX13_way_202 : decode cX13_way 202 = .ok (.iinc 3 1, 3) := by decide +kernel
theorem dX13_way_205 : decode cX13_way 205 = .ok (.aload_n 0, 1) := by decide +kernel
theorem dX13_way_206 : decode cX13_way 206 = .ok (.getfield 27, 3) := by decide +kernel
theorem dX13_way_209 : decode cX13_way 209 = .ok (.iload_n 3, 1) := by decide +kernel
theorem dX13_way_210 : decode cX13_way 210 = .ok (.iload 4, 2) := by decide +kernel
theorem dX13_way_212 : decode cX13_way 212 = .ok (.iastore, 1) := by decide +kernel
theorem dX13_way_213 : decode cX13_way 213 = .ok (.goto (-60), 3) := by decide +kernel
theorem dX13_way_216 : decode cX13_way 216 = .ok (.iload_n 3, 1) := by decide +kernel
theorem dX13_way_217 : decode cX13_way 217 = .ok (.iconst 1, 1) := by decide +kernel
theorem dX13_way_218 : decode cX13_way 218 = .ok (.iadd, 1) := by decide +kernel
theorem dX13_way_219 : decode cX13_way 219 = .ok (.ireturn, 1) := by decide +kernel
theorem dX13_join_0 : decode cX13_join 0 = .ok (.aload_n 0, 1) := by decide +kernel
theorem dX13_join_1 : decode cX13_join 1 = .ok (.iconst 0, 1) := by decide +kernel
theorem dX13_join_2 : decode cX13_join 2 = .ok (.putfield 55, 3) := by decide +kernel
theorem dX13_join_5 : decode cX13_join 5 = .ok (.aload_n 0, 1) := by decide +kernel
theorem dX13_join_6 : decode cX13_join 6 = .ok (.iconst 0, 1) := by decide +kernel
theorem dX13_join_7 : decode cX13_join 7 = .ok (.putfield 128, 3) := by decide +kernel
theorem dX13_join_10 : decode cX13_join 10 = .ok (.aload_n 0, 1) := by decide +kernel
theorem dX13_join_11 : decode cX13_join 11 = .ok (.iload_n 1, 1) := by decide +kernel
theorem dX13_join_12 : decode cX13_join 12 = .ok (.iload_n 2, 1) := by decide +kernel
theorem dX13_join_13 : decode cX13_join 13 = .ok (.invokevirtual 98, 3) := by decide +kernel
theorem dX13_join_16 : decode cX13_join 16 = .ok (.ifCond .eq 15, 3) := by decide +kernel
theorem dX13_join_19 : decode cX13_join 19 = .ok (.iload_n 3, 1) := by decide +kernel
theorem dX13_join_20 : decode cX13_join 20 = .ok (.ifCond .lt 11, 3) := by decide +kernel
theorem dX13_join_23 : decode cX13_join 23 = .ok (.iload_n 3, 1) := by decide +kernel
theorem dX13_join_24 : decode cX13_join 24 = .ok (.aload_n 0, 1) := by decide +kernel
theorem dX13_join_25 : decode cX13_join 25 = .ok (.getfield 89, 3) := by decide +kernel
theorem dX13_join_28 : decode cX13_join 28 = .ok (.if_icmp .lt 9, 3) := by decide +kernel
theorem dX13_join_31 : decode cX13_join 31 = .ok (.aload_n 0, 1) := by decide +kernel
theorem dX13_join_32 : decode cX13_join 32 = .ok (.iconst 1, 1) := by decide +kernel
theorem dX13_join_33 : decode cX13_join 33 = .ok (.invokevirtual 73, 3) := by decide +kernel
theorem dX13_join_36 : decode cX13_join 36 = .ok (.ireturn, 1) := by decide +kernel
theorem dX13_join_37 : decode cX13_join 37 = .ok (.aload_n 0, 1) := by decide +kernel
theorem dX13_join_38 : decode cX13_join 38 = .ok (.getfield 12, 3) := by decide +kernel
theorem dX13_join_41 : decode cX13_join 41 = .ok (.iload_n 1, 1) := by decide +kernel
theorem dX13_join_42 : decode cX13_join 42 = .ok (.aaload, 1) := by decide +kernel
theorem dX13_join_43 : decode cX13_join 43 = .ok (.astore 6, 2) := by decide +kernel
theorem dX13_join_45 : decode cX13_join 45 = .ok (.aload 6, 2) := by decide +kernel
theorem dX13_join_47 : decode cX13_join 47 = .ok (.iload 4, 2) := by decide +kernel
theorem dX13_join_49 : decode cX13_join 49 = .ok (.invokevirtual 131, 3) := by decide +kernel
theorem dX13_join_52 : decode cX13_join 52 = .ok (.ifCond .ne 9, 3) := by decide +kernel
theorem dX13_join_55 : decode cX13_join 55 = .ok (.aload_n 0, 1) := by decide +kernel
theorem dX13_join_56 : decode cX13_join 56 = .ok (.iconst 3, 1) := by decide +kernel
theorem dX13_join_57 : decode cX13_join 57 = .ok (.invokevirtual 73, 3) := by decide +kernel
theorem dX13_join_60 : decode cX13_join 60 = .ok (.ireturn, 1) := by decide +kernel
theorem dX13_join_61 : decode cX13_join 61 = .ok (.aload 6, 2) := by decide +kernel
theorem dX13_join_63 : decode cX13_join 63 = .ok (.getfield 92, 3) := by decide +kernel
theorem dX13_join_66 : decode cX13_join 66 = .ok (.iload_n 2, 1) := by decide +kernel
theorem dX13_join_67 : decode cX13_join 67 = .ok (.iaload, 1) := by decide +kernel
theorem dX13_join_68 : decode cX13_join 68 = .ok (.ifCond .ge 7, 3) := by decide +kernel
theorem dX13_join_71 : decode cX13_join 71 = .ok (.iconst 1, 1) := by decide +kernel
theorem dX13_join_72 : decode cX13_join 72 = .ok (.goto 4, 3) := by decide +kernel
theorem dX13_join_75 : decode cX13_join 75 = .ok (.iconst 0, 1) := by decide +kernel
theorem dX13_join_76 : decode cX13_join 76 = .ok (.istore 7, 2) := by decide +kernel
theorem dX13_join_78 : decode cX13_join 78 = .ok (.iconst 0, 1) := by decide +kernel
theorem dX13_join_79 : decode cX13_join 79 = .ok (.istore 8, 2) := by decide +kernel
theorem dX13_join_81 : decode cX13_join 81 = .ok (.iload 8, 2) := by decide +kernel
theorem dX13_join_83 : decode cX13_join 83 = .ok (.aload 6, 2) := by decide +kernel
theorem dX13_join_85 : decode cX13_join 85 = .ok (.getfield 68, 3) := by decide +kernel
theorem dX13_join_88 : decode cX13_join 88 = .ok (.if_icmp .ge 58, 3) := by decide +kernel
theorem dX13_join_91 : decode cX13_join 91 = .ok (.iload 7, 2) := by decide +kernel
theorem dX13_join_93 : decode cX13_join 93 = .ok (.ifCond .ne 40, 3) := by decide +kernel
theorem dX13_join_96 : decode cX13_join 96 = .ok (.aload 6, 2) := by decide +kernel
theorem dX13_join_98 : decode cX13_join 98 = .ok (.getfield 110, 3) := by decide +kernel
theorem dX13_join_101 : decode cX13_join 101 = .ok (.iload 8, 2) := by decide +kernel
theorem dX13_join_103 : decode cX13_join 103 = .ok (.iaload, 1) := by decide +kernel
theorem dX13_join_104 : decode cX13_join 104 = .ok (.iload_n 2, 1) := by decide +kernel
theorem dX13_join_105 : decode cX13_join 105 = .ok (.if_icmp .ne 32, 3) := by decide +kernel
theorem dX13_join_108 : decode cX13_join 108 = .ok (.aload 6, 2) := by decide +kernel
theorem dX13_join_110 : decode cX13_join 110 = .ok (.getfield 95, 3) := by decide +kernel
theorem dX13_join_113 : decode cX13_join 113 = .ok (.iload 8, 2) := by decide +kernel
theorem dX13_join_115 : decode cX13_join 115 = .ok (.iaload, 1) := by decide +kernel
theorem dX13_join_116 : decode cX13_join 116 = .ok (.iconst (-1), 1) := by decide +kernel
theorem dX13_join_117 : decode cX13_join 117 = .ok (.if_icmp .eq 16, 3) := by decide +kernel
theorem dX13_join_120 : decode cX13_join 120 = .ok (.aload 6, 2) := by decide +kernel
theorem dX13_join_122 : decode cX13_join 122 = .ok (.getfield 95, 3) := by decide +kernel
theorem dX13_join_125 : decode cX13_join 125 = .ok (.iload 8, 2) := by decide +kernel
theorem dX13_join_127 : decode cX13_join 127 = .ok (.iaload, 1) := by decide +kernel
theorem dX13_join_128 : decode cX13_join 128 = .ok (.iload 4, 2) := by decide +kernel
theorem dX13_join_130 : decode cX13_join 130 = .ok (.if_icmp .le 7, 3) := by decide +kernel
theorem dX13_join_133 : decode cX13_join 133 = .ok (.iconst 1, 1) := by decide +kernel
theorem dX13_join_134 : decode cX13_join 134 = .ok (.goto 4, 3) := by decide +kernel
theorem dX13_join_137 : decode cX13_join 137 = .ok (.iconst 0, 1) := by decide +kernel
theorem dX13_join_138 : decode cX13_join 138 = .ok (.istore 7, 2) := by decide +kernel
theorem dX13_join_140 : decode cX13_join 140 = .ok (.iinc 8 1, 3) := by decide +kernel
theorem dX13_join_143 : decode cX13_join 143 = .ok (.goto (-62), 3) := by decide +kernel
theorem dX13_join_146 : decode cX13_join 146 = .ok (.iload 7, 2) := by decide +kernel
theorem dX13_join_148 : decode cX13_join 148 = .ok (.ifCond .eq 9, 3) := by decide +kernel
theorem dX13_join_151 : decode cX13_join 151 = .ok (.aload_n 0, 1) := by decide +kernel
theorem dX13_join_152 : decode cX13_join 152 = .ok (.iconst 4, 1) := by decide +kernel
theorem dX13_join_153 : decode cX13_join 153 = .ok (.invokevirtual 73, 3) := by decide +kernel
theorem dX13_join_156 : decode cX13_join 156 = .ok (.ireturn, 1) := by decide +kernel
theorem dX13_join_157 : decode cX13_join 157 = .ok (.aload_n 0, 1) := by decide +kernel
theorem dX13_join_158 : decode cX13_join 158 = .ok (.getfield 20, 3) := by decide +kernel
theorem dX13_join_161 : decode cX13_join 161 = .ok (.iload_n 3, 1) := by decide +kernel
theorem dX13_join_162 : decode cX13_join 162 = .ok (.iaload, 1) := by decide +kernel
theorem dX13_join_163 : decode cX13_join 163 = .ok (.iconst 5, 1) := by decide +kernel
theorem dX13_join_164 : decode cX13_join 164 = .ok (.if_icmp .ne 32, 3) := by decide +kernel
theorem dX13_join_167 : decode cX13_join 167 = .ok (.aload_n 0, 1) := by decide +kernel
theorem dX13_join_168 : decode cX13_join 168 = .ok (.aload_n 0, 1) := by decide +kernel
theorem dX13_join_169 : decode cX13_join 169 = .ok (.iload_n 1, 1) := by decide +kernel
theorem dX13_join_170 : decode cX13_join 170 = .ok (.aload_n 0, 1) := by decide +kernel
theorem dX13_join_171 : decode cX13_join 171 = .ok (.getfield 24, 3) := by decide +kernel
theorem dX13_join_174 : decode cX13_join 174 = .ok (.iload_n 3, 1) := by decide +kernel
theorem dX13_join_175 : decode cX13_join 175 = .ok (.iaload, 1) := by decide +kernel
theorem dX13_join_176 : decode cX13_join 176 = .ok (.invokevirtual 134, 3) := by decide +kernel
theorem dX13_join_179 : decode cX13_join 179 = .ok (.putfield 128, 3) := by decide +kernel
theorem dX13_join_182 : decode cX13_join 182 = .ok (.aload_n 0, 1) := by decide +kernel
theorem dX13_join_183 : decode cX13_join 183 = .ok (.getfield 128, 3) := by decide +kernel
theorem dX13_join_186 : decode cX13_join 186 = .ok (.ifCond .le 10, 3) := by decide +kernel
theorem dX13_join_189 : decode cX13_join 189 = .ok (.aload_n 0, 1) := by decide +kernel
theorem dX13_join_190 : decode cX13_join 190 = .ok (.bipush 8, 2) := by decide +kernel
theorem dX13_join_192 : decode cX13_join 192 = .ok (.invokevirtual 73, 3) := by decide +kernel
theorem dX13_join_195 : decode cX13_join 195 = .ok (.ireturn, 1) := by decide +kernel
theorem dX13_join_196 : decode cX13_join 196 = .ok (.aload 6, 2) := by decide +kernel
theorem dX13_join_198 : decode cX13_join 198 = .ok (.getfield 68, 3) := by decide +kernel
theorem dX13_join_201 : decode cX13_join 201 = .ok (.bipush 24, 2) := by decide +kernel
theorem dX13_join_203 : decode cX13_join 203 = .ok (.if_icmp .ne 10, 3) := by decide +kernel
theorem dX13_join_206 : decode cX13_join 206 = .ok (.aload_n 0, 1) := by decide +kernel
theorem dX13_join_207 : decode cX13_join 207 = .ok (.bipush 9, 2) := by decide +kernel
theorem dX13_join_209 : decode cX13_join 209 = .ok (.invokevirtual 73, 3) := by decide +kernel
theorem dX13_join_212 : decode cX13_join 212 = .ok (.ireturn, 1) := by decide +kernel
theorem dX13_join_213 : decode cX13_join 213 = .ok (.aload_n 0, 1) := by decide +kernel
theorem dX13_join_214 : decode cX13_join 214 = .ok (.aload_n 0, 1) := by decide +kernel
theorem dX13_join_215 : decode cX13_join 215 = .ok (.aload 6, 2) := by decide +kernel
theorem dX13_join_217 : decode cX13_join 217 = .ok (.iload_n 2, 1) := by decide +kernel
theorem dX13_join_218 : decode cX13_join 218 = .ok (.iload_n 3, 1) := by decide +kernel
theorem dX13_join_219 : decode cX13_join 219 = .ok (.iload 4, 2) := by decide +kernel
theorem dX13_join_221 : decode cX13_join 221 = .ok (.iload 5, 2) := by decide +kernel
theorem dX13_join_223 : decode cX13_join 223 = .ok (.invokevirtual 138, 3) := by decide +kernel
theorem dX13_join_226 : decode cX13_join 226 = .ok (.invokevirtual 86, 3) := by decide +kernel
theorem dX13_join_229 : decode cX13_join 229 = .ok (.ireturn, 1) := by decide +kernel
theorem wd_886 : Cond.fieldLink RX13 30 RX13 "far" "[I" ∈ lw_good := mem_t6 70 (by decide +kernel) rfl
theorem wd_887 : Cond.methodLink RX13 107 yX13_owns ∈ lw_good := mem_t6 176 (by decide +kernel) rfl
theorem wd_888 : Cond.instanceMethod yX13_owns ∈ lw_good := mem_t6 178 (by decide +kernel) rfl
theorem wd_889 : Cond.selects RX13 yX13_owns yX13_owns ∈ lw_good := mem_p 32 (by decide +kernel) rfl
theorem wd_890 : Cond.code yX13_owns cX13_owns 6 (some .boolean) ∈ lw_good := mem_t6 179 rfl rfl
theorem wd_891 : Cond.methodLink RX13 134 yX13_way ∈ lw_good := mem_t6 172 (by decide +kernel) rfl
theorem wd_892 : Cond.instanceMethod yX13_way ∈ lw_good := mem_t6 174 (by decide +kernel) rfl
theorem wd_893 : Cond.selects RX13 yX13_way yX13_way ∈ lw_good := mem_p 31 (by decide +kernel) rfl
theorem wd_894 : Cond.code yX13_way cX13_way 6 (some .int) ∈ lw_good := mem_t6 175 rfl rfl
/-- whether House a owns a part of the b-th: from the tenures' partners -/
def hOf (M : Hp) (z1 b : Nat) : Nat := (RFc (M z1) b).getD 0
def wOf (M : Hp) (h : Nat) : Nat → Int32 := vA M (hF12 (M h))[19]?
def owT (fk ft fw : Nat → Int32) (a : Int32) (n : Nat) : Prop := ∃ t : Nat, t < n ∧ fk (fw t).toNatClampNeg = 5 ∧ ft (fw t).toNatClampNeg = a
def owS (M : Hp) (z1 z6 z7 : Nat) (a : Int32) (b : Nat) : Prop := owT (IFc (M z6)) (IFc (M z7)) (wOf M (hOf M z1 b)) a (fx M (hOf M z1 b) 10).toNat
def owW (M : Hp) (z1 z6 z7 : Nat) : Nat → Nat → Prop := fun a b => owS M z1 z6 z7 (nI a) b
theorem wOf_of {M : Hp} {h r n : Nat} {c : ClassId} {fs : List Value} {fw : Nat → Int32} (hM : M h = .inr (12, fs)) (h19 : fs[19]? = some (.ref r)) (hr : M r = .inl (c, n, .inl fw)) : wOf M h = fw := by
  show vA M (hF12 (M h))[19]? = fw
  rw [hM]
  show vA M fs[19]? = fw
  rw [h19]
  show IFc (M r) = fw
  rw [hr]
  rfl
theorem owS_of {M : Hp} {z1 z6 z7 b h n r m m6 m7 : Nat} {c c6 c7 : ClassId} {fs : List Value} {fk ft fw : Nat → Int32} {a : Int32} (e1 : RFc (M z1) b = some h) (hM : M h = .inr (12, fs)) (h10 : fs[10]? = some (.int (nI n))) (hn : n < 2147483648) (h19 : fs[19]? = some (.ref r)) (hr : M r = .inl (c, m, .inl fw)) (h6 : M z6 = .inl (c6, m6, .inl fk)) (h7 : M z7 = .inl (c7, m7, .inl ft)) : owS M z1 z6 z7 a b ↔ owT fk ft fw a n := by
  have e2 : hOf M z1 b = h := by
    unfold hOf
    rw [e1]
    rfl
  have e6 : IFc (M z6) = fk := by
    rw [h6]
    rfl
  have e7 : IFc (M z7) = ft := by
    rw [h7]
    rfl
  have e10 : (fx M h 10).toNat = n := by
    rw [fx_of hM rfl h10, nI_toInt hn]
    omega
  unfold owS
  rw [e2, e6, e7, e10, wOf_of hM h19 hr]
theorem owS.mv {cy : Nat → ClassId} {K : Kp} {L ts : List Nat} {M M1 : Hp} {z1 z6 z7 b : Nat} {a : Int32} (hW : WOM cy K L M) (i1 : isk K L z1 23 8) (i6 : isk K L z6 47 40) (i7 : isk K L z7 48 40) (hF : fr K L ts M M1) (ht : ∀ t ∈ ts, t ∉ [12, 23, 30, 47, 48]) (hb : b < 8) : owS M1 z1 z6 z7 a b ↔ owS M z1 z6 z7 a b := by
  have q1 : M1 z1 = M z1 := hF.at i1 (fun y => ht _ y (by decide))
  have q6 : M1 z6 = M z6 := hF.at i6 (fun y => ht _ y (by decide))
  have q7 : M1 z7 = M z7 := hF.at i7 (fun y => ht _ y (by decide))
  obtain ⟨f, h1, h2⟩ := hW.open_23 i1
  obtain ⟨h, h3, h4⟩ := h2 b hb
  have e1 : RFc (M z1) b = some h := by
    rw [h1]
    exact h3
  have e2 : hOf M z1 b = h := by
    unfold hOf
    rw [e1]
    rfl
  have e3 : hOf M1 z1 b = h := by
    unfold hOf
    rw [q1, e1]
    rfl
  have qh : M1 h = M h := hF.at h4 (fun y => ht _ y (by decide))
  obtain ⟨fs, hM, _, hfl⟩ := hW.open_12 h4
  obtain ⟨r, h19, ir⟩ : ∃ v : Nat, fs[19]? = some (.ref v : Value) ∧ isk K L v 30 24 := hfl 19 (by decide)
  obtain ⟨fw, hr, _⟩ := hW.open_30 ir
  have qr : M1 r = M r := hF.at ir (fun y => ht _ y (by decide))
  unfold owS
  rw [e2, e3, q6, q7, fx_eq qh, wOf_of (qh.trans hM) h19 (qr.trans hr), wOf_of hM h19 hr]
theorem owT0 {fk ft fw : Nat → Int32} {a : Int32} : ((0 : Int32) = 1 ↔ owT fk ft fw a 0) := ⟨fun h => absurd h (by decide), fun ⟨t, h, _⟩ => absurd h (Nat.not_lt_zero _)⟩
theorem owT1 {fk ft fw : Nat → Int32} {a : Int32} {n : Nat} (h : ((1 : Int32) = 1 ↔ owT fk ft fw a n)) : ((1 : Int32) = 1 ↔ owT fk ft fw a (n + 1)) := ⟨fun _ => by
  obtain ⟨t, h1, h2⟩ := h.mp rfl
  exact ⟨t, by omega, h2⟩, fun _ => rfl⟩
theorem owTn {fk ft fw : Nat → Int32} {a : Int32} {n : Nat} (h : ((0 : Int32) = 1 ↔ owT fk ft fw a n)) (hk : ¬ (fk (fw n).toNatClampNeg = 5 ∧ ft (fw n).toNatClampNeg = a)) : ((0 : Int32) = 1 ↔ owT fk ft fw a (n + 1)) := ⟨fun q => absurd q (by decide), fun ⟨t, h1, h2⟩ => by
  by_cases z : t = n
  · subst z
    exact absurd h2 hk
  · exact h.mpr ⟨t, by omega, h2⟩⟩
theorem owTy {fk ft fw : Nat → Int32} {a : Int32} {n : Nat} (h1 : fk (fw n).toNatClampNeg = 5) (h2 : ft (fw n).toNatClampNeg = a) : ((1 : Int32) = 1 ↔ owT fk ft fw a (n + 1)) := ⟨fun _ => ⟨n, by omega, h1, h2⟩, fun _ => rfl⟩
theorem clN {fw : Nat → Int32} {n : Nat} {v : Int32} (hn : n < 2147483648) (h : fw (nI n).toNatClampNeg = v) : fw n = v := by
  rw [nI_cl hn] at h
  exact h
/-- least distances, as the rounds of way() find them -/
def D0 (T : Int32) (k : Nat) : Nat := if nI k = T then 0 else 100
def LK (F : Nat → Int32) (D : Nat → Nat) : Prop := ∀ k, k < 8 → F k = nI (D k) ∧ D k ≤ 100
def BG (ow : Nat → Nat → Prop) (N : Nat) (T : Int32) (D : Nat → Nat) : Prop := (∀ k, k < 8 → D k = 0 → nI k = T) ∧ ∀ a, a < 8 → 0 < D a → D a < 100 → a < N ∧ ∃ b, b < N ∧ ow a b ∧ D b < D a
def B3 (ow : Nat → Nat → Prop) (N : Nat) (D : Nat → Nat) (r : Nat) : Prop := ∀ a b, a < N → b < N → ow a b → D b < r → D a ≤ D b + 1
def BJ (ow : Nat → Nat → Prop) (N : Nat) (D : Nat → Nat) (r a b : Nat) : Prop := ∀ x y, x < N → y < N → (x < a ∨ (x = a ∧ y < b)) → ow x y → D y ≤ r → D x ≤ D y + 1
theorem LK.fill {F : Nat → Int32} {T : Int32} (h : ∀ k : Nat, k < 8 → F k = nI (D0 T k)) : LK F (D0 T) := fun k hk => ⟨h k hk, by unfold D0; split <;> omega⟩
theorem filD {F : Nat → Int32} {T v : Int32} {i n : Nat} (h : ∀ k : Nat, k < n → F k = nI (D0 T k)) (hi : i = n) (hv : v = nI (D0 T n)) : ∀ k : Nat, k < n + 1 → upd F i v k = nI (D0 T k) := fun k hk => by
  by_cases z : k = i
  · rw [z, upd_self, hi]
    exact hv
  · rw [upd_ne _ _ z]
    exact h k (by omega)
theorem D0y {T : Int32} {n : Nat} (h : nI n = T) : (0 : Int32) = nI (D0 T n) := by
  unfold D0
  rw [if_pos h]
  rfl
theorem D0n {T : Int32} {n : Nat} (h : ¬ nI n = T) : (100 : Int32) = nI (D0 T n) := by
  unfold D0
  rw [if_neg h]
  rfl
theorem BG.fst (ow : Nat → Nat → Prop) (N : Nat) (T : Int32) : BG ow N T (D0 T) := ⟨fun k _ h => by
  unfold D0 at h
  split at h
  · assumption
  · omega, fun a _ h1 h2 => by
  unfold D0 at h1 h2
  by_cases q : nI a = T
  · rw [if_pos q] at h1
    omega
  · rw [if_neg q] at h2
    omega⟩
theorem B3.fst (ow : Nat → Nat → Prop) (N : Nat) (D : Nat → Nat) : B3 ow N D 0 := fun _ _ _ _ _ h => absurd h (Nat.not_lt_zero _)
theorem BJ.fst (ow : Nat → Nat → Prop) (N : Nat) (D : Nat → Nat) (r : Nat) : BJ ow N D r 0 0 := fun _ _ _ _ h => by omega
theorem LK.up {F : Nat → Int32} {D : Nat → Nat} {i a d : Nat} (h : LK F D) (hi : i = a) (hd : d ≤ 100) : LK (upd F i (nI d)) (va_up D a d) := fun k hk => by
  subst hi
  by_cases z : k = i
  · rw [z, upd_self, va_up_self]
    exact ⟨rfl, hd⟩
  · rw [upd_ne _ _ z, va_up_ne _ _ z]
    exact h k hk
theorem BJ.no {ow : Nat → Nat → Prop} {N r a b : Nat} {D : Nat → Nat} (hJ : BJ ow N D r a b) (h : ow a b → D a ≤ D b + 1) : BJ ow N D r a (b + 1) := fun x y hx hy q ho hd => by
  by_cases z : x = a ∧ y = b
  · obtain ⟨rfl, rfl⟩ := z
    exact h ho
  · exact hJ x y hx hy (by omega) ho hd
theorem BJ.row {ow : Nat → Nat → Prop} {N r a b : Nat} {D : Nat → Nat} (hJ : BJ ow N D r a b) (hb : N ≤ b) : BJ ow N D r (a + 1) 0 := fun x y hx hy q ho hd => hJ x y hx hy (by omega) ho hd
theorem B3.nxt {ow : Nat → Nat → Prop} {N r a : Nat} {D : Nat → Nat} (hJ : BJ ow N D r a 0) (ha : N ≤ a) : B3 ow N D (r + 1) := fun x y hx hy ho hd => hJ x y hx hy (by omega) ho (by omega)
theorem BFr {ow : Nat → Nat → Prop} {N r a b : Nat} {T : Int32} {D : Nat → Nat} (hN : N ≤ 8) (hG : BG ow N T D) (h3 : B3 ow N D r) (hJ : BJ ow N D r a b) (ha : a < N) (hb : b < N) (ho : ow a b) (hd : D b + 1 < D a) : BG ow N T (va_up D a (D b + 1)) ∧ B3 ow N (va_up D a (D b + 1)) r ∧ BJ ow N (va_up D a (D b + 1)) r a (b + 1) := by
  have hr : r ≤ D b := Nat.le_of_not_lt fun q => by
    have := h3 a b ha hb ho q
    omega
  have hs : va_up D a (D b + 1) a = D b + 1 := va_up_self _ _ _
  have hn : ∀ x, x ≠ a → va_up D a (D b + 1) x = D x := fun x q => va_up_ne _ _ q
  have hle : ∀ x, va_up D a (D b + 1) x ≤ D x := fun x => by
    by_cases z : x = a
    · rw [z, hs]
      omega
    · rw [hn x z]
      exact Nat.le_refl _
  have hba : b ≠ a := fun z => by
    rw [z] at hd
    omega
  refine ⟨⟨fun k hk h0 => ?_, fun x hx h0 h1 => ?_⟩, fun x y hx hy hxy h0 => ?_, fun x y hx hy q hxy h0 => ?_⟩
  · by_cases z : k = a
    · rw [z, hs] at h0
      omega
    · rw [hn k z] at h0
      exact hG.1 k hk h0
  · by_cases z : x = a
    · refine ⟨by omega, b, hb, by rw [z]; exact ho, ?_⟩
      rw [z, hs, hn b hba]
      omega
    · rw [hn x z] at h0 h1
      obtain ⟨g1, y, g2, g3, g4⟩ := hG.2 x hx h0 h1
      refine ⟨g1, y, g2, g3, ?_⟩
      rw [hn x z]
      have := hle y
      omega
  · by_cases z : y = a
    · rw [z, hs] at h0
      omega
    · rw [hn y z] at h0 ⊢
      have := h3 x y hx hy hxy h0
      have := hle x
      omega
  · by_cases z : y = a
    · rw [z, hs] at h0
      rw [z, hs]
      have : D b = r := by omega
      by_cases w : x = a
      · rw [w, hs]
        omega
      · omega
    · rw [hn y z] at h0 ⊢
      by_cases w : x = a ∧ y = b
      · rw [w.1, hs, w.2]
        exact Nat.le_refl _
      · have := hJ x y hx hy (by omega) hxy h0
        have := hle x
        omega
theorem exNext {P : Nat → Prop} {v b0 N : Nat} (h1 : v ≤ b0) (h2 : b0 < N) (hP : P b0) (hn : ¬ P v) : ∃ b, v + 1 ≤ b ∧ b < N ∧ P b := by
  rcases Nat.lt_or_ge v b0 with q | q
  · exact ⟨b0, q, h2, hP⟩
  · have e : b0 = v := by omega
    rw [e] at hP
    exact absurd hP hn
theorem sub_len : ∀ (vs L : List Nat), vs.Nodup → (∀ v, v ∈ vs → v ∈ L) → vs.length ≤ L.length := by
  intro vs
  induction vs with
  | nil => intro L _ _; exact Nat.zero_le _
  | cons v vs ih =>
    intro L hn hs
    have hv : v ∈ L := hs v (List.mem_cons_self)
    have h1 := List.nodup_cons.mp hn
    have h2 := ih (L.erase v) h1.2 (fun w hw => (List.mem_erase_of_ne (fun q => h1.1 (by rw [← q]; exact hw))).mpr (hs w (List.mem_cons_of_mem _ hw)))
    rw [List.length_erase_of_mem hv] at h2
    have h3 : 0 < L.length := List.length_pos_of_mem hv
    show vs.length + 1 ≤ L.length
    omega
theorem BFd {ow : Nat → Nat → Prop} {N : Nat} {T : Int32} {D : Nat → Nat} (hN : N ≤ 8) (hG : BG ow N T D) (h3 : B3 ow N D 8) : ∀ v a, a < 8 → D a = v → v < 100 → ∀ w, w ≤ v → w ≤ 8 → ∃ c, c < 8 ∧ D c = w := by
  intro v
  induction v using Nat.strongRecOn with
  | ind v ih =>
    intro a ha hv hv1 w hw hw8
    by_cases z : w = v
    · exact ⟨a, ha, by omega⟩
    · obtain ⟨g1, b, g2, g3, g4⟩ := hG.2 a ha (by omega) (by omega)
      by_cases q : w ≤ D b
      · exact ih (D b) (by omega) b (by omega) rfl (by omega) w q hw8
      · have := h3 a b g1 g2 g3 (by omega)
        omega
theorem BFw {ow : Nat → Nat → Prop} {N : Nat} {T : Int32} {D : Nat → Nat} (hN : N ≤ 8) (hG : BG ow N T D) (h3 : B3 ow N D 8) : ∀ a, a < 8 → 0 < D a → D a < 100 → D a ≤ 7 ∧ ∃ b, b < N ∧ ow a b ∧ D b + 1 = D a := by
  intro a ha h0 h1
  have h7 : D a ≤ 7 := Nat.le_of_not_lt fun q => by
    have hs := sub_len (List.range 9) ((List.range 8).map D) List.nodup_range (fun w hw => by
      have hw9 := List.mem_range.mp hw
      obtain ⟨c, hc, e⟩ := BFd hN hG h3 (D a) a ha rfl h1 w (by omega) (by omega)
      exact List.mem_map.mpr ⟨c, List.mem_range.mpr hc, e⟩)
    rw [List.length_map, List.length_range, List.length_range] at hs
    omega
  obtain ⟨g1, b, g2, g3, g4⟩ := hG.2 a ha h0 h1
  have := h3 a b g1 g2 g3 (by omega)
  exact ⟨h7, b, g2, g3, by omega⟩
set_option maxHeartbeats 4000000 in
set_option maxRecDepth 100000 in
theorem r_ownsS (l : Launch) (D : va_G) (cy : Nat → ClassId) (K : Kp) (L : List Nat) (M : Hp) (sz : Nat) (za : Nat) (z0 : Int32) (z1 : Nat) (z2 : Nat) (z3 : Nat) (z4 : Int32) (z5 : Int32) (z6 : Nat) (z7 : Nat) (z8 : Nat) (z9 : Nat) (z10 : Nat) (z11 : Nat) (z12 : Nat) (z13 : Nat) (z14 : Nat) (z15 : Nat) (z16 : Nat) (z17 : Nat) (z18 : Int32) (z19 : Nat) (k1 : Int32) (k2 : Nat) (hW : WOM cy K L M) (i1 : isk K L z1 23 8) (b2 : z2 ≤ 8) (b3 : z3 ≤ 40) (i6 : isk K L z6 47 40) (i7 : isk K L z7 48 40) (i8 : isk K L z8 49 8) (i9 : isk K L z9 50 8) (b10 : z10 ≤ 8) (i11 : isk K L z11 32 24) (i12 : isk K L z12 14 24) (i13 : isk K L z13 15 24) (i14 : isk K L z14 15 24) (i15 : isk K L z15 15 24) (b16 : z16 ≤ 24) (i17 : isk K L z17 14 24) (i19 : isk K L z19 15 25) (nk2 : k2 < 8) : Met l yX13_owns (wsM yX13_owns cX13_owns 6 (some .boolean)) ({ frames := 0, cells := 0, slots := 0, locals := 0 }) (va_Pc [.ref za, .int k1, .int (nI k2)] (PG D cy [(za, .inr (13, [.int z0, .ref z1, .int (nI z2), .int (nI z3), .int z4, .int z5, .ref z6, .ref z7, .ref z8, .ref z9, .int (nI z10), .ref z11, .ref z12, .ref z13, .ref z14, .ref z15, .int (nI z16), .ref z17, .int z18, .ref z19]))] L M sz)) (va_Qi (fun (r : Int32) (_ : Unit) => (r = 1 ∧ owS M z1 z6 z7 k1 k2) ∨ (r = 0 ∧ ¬ owS M z1 z6 z7 k1 k2)) (fun _ t => PQ D [(za, .inr (13, [.int z0, .ref z1, .int (nI z2), .int (nI z3), .int z4, .int z5, .ref z6, .ref z7, .ref z8, .ref z9, .int (nI z10), .ref z11, .ref z12, .ref z13, .ref z14, .ref z15, .int (nI z16), .ref z17, .int z18, .ref z19]))] L M (va_A ([(za, .inr (13, [.int z0, .ref z1, .int (nI z2), .int (nI z3), .int z4, .int z5, .ref z6, .ref z7, .ref z8, .ref z9, .int (nI z10), .ref z11, .ref z12, .ref z13, .ref z14, .ref z15, .int (nI z16), .ref z17, .int z18, .ref z19]))] ++ va_pl L M) sz) t) (va_A ([(za, .inr (13, [.int z0, .ref z1, .int (nI z2), .int (nI z3), .int z4, .int z5, .ref z6, .ref z7, .ref z8, .ref z9, .int (nI z10), .ref z11, .ref z12, .ref z13, .ref z14, .ref z15, .int (nI z16), .ref z17, .int z18, .ref z19]))] ++ va_pl L M) sz)) 0 0 (va_A ([(za, .inr (13, [.int z0, .ref z1, .int (nI z2), .int (nI z3), .int z4, .int z5, .ref z6, .ref z7, .ref z8, .ref z9, .int (nI z10), .ref z11, .ref z12, .ref z13, .ref z14, .ref z15, .int (nI z16), .ref z17, .int z18, .ref z19]))] ++ va_pl L M) sz) := by
  refine Met.ofW (cc := cX13_owns) (maxL := 6) (ret := (some .boolean)) (by decide) rfl ?_
  intro p e s m args below meth c s₁ B hml hv
  obtain ⟨rfl, hsz, hP, hK, hD0, hN⟩ := hv
  have hx := B.exec
  have hb := B.bytes
  have hr := B.returns
  have hts := atoms_spec (ws := (wsM yX13_owns cX13_owns 6 (some .boolean))) B.pre
  have hg : ∀ w ∈ lw_good, w.before _ s = true := fun w h => hts w (List.mem_cons_of_mem _ h)
  have hown : s.vm.findClass RX13 = some m.cls := findClass_of_methodNamed B.named
  have hlocks := B.notSynchronized
  subst hsz
  have hD := hD0.self (sz := s.heap.size)
  generalize hAe : va_A ([(za, .inr (13, [.int z0, .ref z1, .int (nI z2), .int (nI z3), .int z4, .int z5, .ref z6, .ref z7, .ref z8, .ref z9, .int (nI z10), .ref z11, .ref z12, .ref z13, .ref z14, .ref z15, .int (nI z16), .ref z17, .int z18, .ref z19]))] ++ va_pl L M) s.heap.size = A at hD ⊢
  have hA : ∀ q : Nat, s.heap.size ≤ q → A q := fun q h => by rw [← hAe]; exact Or.inr h
  have hS : va_S A s.heap s.heap [] := va_S.rf
  have hl := lv_entry ([.ref za, .int k1, .int (nI k2)]) (n := 6) (Nat.le_of_ble_eq_true rfl)
  rw [lg_entry_eq]
  generalize (lg_sl ([.ref za, .int k1, .int (nI k2)]) ++ List.replicate (6 - (lg_sl ([.ref za, .int k1, .int (nI k2)])).length) Slot.unset).toArray = ls at hl ⊢
  refine W.nameQ (fun Q hQ => ?_)
  refine W.nameR (fun R hR => ?_)
  have hRf : 0 ≤ R.frames := by rw [hR]; exact Nat.le_of_ble_eq_true rfl
  have hRl : 0 ≤ R.locals := by rw [hR]; exact Nat.le_of_ble_eq_true rfl
  have hRc : 0 ≤ R.cells := by rw [hR]; exact Nat.le_of_ble_eq_true rfl
  have hRs : 0 ≤ R.slots := by rw [hR]; exact Nat.le_of_ble_eq_true rfl
  have hl : lv_has ls 6 [(0, .ref za), (1, .int k1), (2, .int (nI k2))] := hl
  refine lv_aload_n hx hb dX13_owns_0 rfl (lv_at hl 0 rfl) ?_
  refine va_get (D := D) (ci := 13) (v := .ref z1) (C := RX13) (T := TX13) (N := 20) hx hb hg inG13 hown hK hP 0 rfl rfl 1 (by decide) (hg _ wd_739) (fun _ h9 => h9) rfl dX13_owns_1 ?_
  refine lv_iload_n hx hb dX13_owns_4 rfl (lv_at hl 2 rfl) ?_
  obtain ⟨f1, hM1, hf1⟩ := hW.open_23 i1
  have hi_2 : vp_in (nI k2) 8 := (inbN k2 8 (by omega) (by omega))
  refine pg_aldq hx hb hK hP i1.1 9 hM1 rfl hi_2 dX13_owns_5 ?_
  obtain ⟨b3, eb_4, hb_5⟩ := hf1 _ (vp_lt hi_2)
  rw [eb_4]
  refine lv_astore_n (lv' := [(3, .ref b3), (0, .ref za), (1, .int k1), (2, .int (nI k2))]) hx hb dX13_owns_6 rfl hl (by decide) rfl (fun ls hl => ?_)
  obtain ⟨fs6, hM6, hn6, hl6⟩ := hW.open_12 hb_5
  obtain ⟨v7, hv7, hc7⟩ : ∃ v : Nat, fs6[10]? = some (.int (nI v) : Value) ∧ v ≤ 24 := hl6 10 (by decide)
  obtain ⟨v8, hv8, hc8⟩ : ∃ v : Nat, fs6[19]? = some (.ref v : Value) ∧ isk K L v 30 24 := hl6 19 (by decide)
  obtain ⟨f9, hM9, hf9⟩ := hW.open_30 hc8
  obtain ⟨f10, hM10, hf10⟩ := hW.open_47 i6
  obtain ⟨f11, hM11⟩ := hW.open_48 i7
  have he1 : RFc (M z1) k2 = some b3 := by
    rw [show RFc (M z1) = f1 from by rw [hM1]; rfl]
    have h := eb_4
    rw [nI_cl (by omega)] at h
    exact h
  have hQo : owS M z1 z6 z7 k1 k2 ↔ owT f10 f11 f9 k1 v7 := owS_of he1 hM6 hv7 (by omega) hv8 hM9 hM10 hM11
  refine lv_iconst (v := 0) hx hb dX13_owns_7 (by decide) ?_
  refine lv_istore (lv' := [(4, .int 0), (3, .ref b3), (0, .ref za), (1, .int k1), (2, .int (nI k2))]) hx hb dX13_owns_8 hl (by decide) rfl (fun ls hl => ?_)
  refine lv_iconst (v := 0) hx hb dX13_owns_10 (by decide) ?_
  refine lv_istore (lv' := [(5, .int 0), (4, .int 0), (3, .ref b3), (0, .ref za), (1, .int k1), (2, .int (nI k2))]) hx hb dX13_owns_11 hl (by decide) rfl (fun ls hl => ?_)
  have key_12 : ∀ (fu_14 : Nat) (v4w15 : Int32) (v5w15 : Nat) (H_19 : Heap) (locs : List Loc) (ls : Array Slot), 24 - v5w15 < fu_14 → (v4w15 = 0 ∨ v4w15 = 1) → v5w15 ≤ v7 → (v4w15 = 1 ↔ owT f10 f11 f9 k1 v5w15) → WOM cy K L M → va_P D vwCl ([(za, .inr (13, [.int z0, .ref z1, .int (nI z2), .int (nI z3), .int z4, .int z5, .ref z6, .ref z7, .ref z8, .ref z9, .int (nI z10), .ref z11, .ref z12, .ref z13, .ref z14, .ref z15, .int (nI z16), .ref z17, .int z18, .ref z19]))] ++ va_pl L M) H_19 → va_D A ([(za, .inr (13, [.int z0, .ref z1, .int (nI z2), .int (nI z3), .int z4, .int z5, .ref z6, .ref z7, .ref z8, .ref z9, .int (nI z10), .ref z11, .ref z12, .ref z13, .ref z14, .ref z15, .int (nI z16), .ref z17, .int z18, .ref z19]))] ++ va_pl L M) → va_S A s.heap H_19 locs → lv_has ls 6 [(5, .int (nI v5w15)), (4, .int v4w15), (3, .ref b3), (0, .ref za), (1, .int k1), (2, .int (nI k2))] → W p l e R s m ([.ref za, .int k1, .int (nI k2)] : List Value).toArray below meth c H_19 locs 0 0 Q (F0 m 13 ls []) := by
    intro fu_14
    induction fu_14 with
    | zero => intro v4w15 v5w15 H_19 locs ls h; exact absurd h (Nat.not_lt_zero _)
    | succ fu_14 ih_13 =>
      intro v4w15 v5w15 H_19 locs ls hfu hq_16 hx_17 hx_18 hW hP hD hS hl
      rcases hq_16 with rfl | rfl
      · have hz := rfl (a := 0)
        refine lv_iload hx hb dX13_owns_13 (lv_at hl 0 rfl) ?_
        refine lv_aload_n hx hb dX13_owns_15 rfl (lv_at hl 2 rfl) ?_
        refine pg_getN (D := D) (ci := 12) (v := .int (nI v7)) (C := RX12) (T := TX12) (N := 51) hx hb hg inG12 hown hK hP hb_5.1 hM6 rfl 10 (by decide) (hN.use (Cond.fieldLinkNest RX13 68 RX12 "tenures" "I" RX13) 19 rfl rfl) (fun _ h9 => h9) hv7 dX13_owns_16 ?_
        refine lv_icmp_ge (tgt := 72) hx hb dX13_owns_19 (by decide) (fun c_20 => ?_) (fun c_20 => ?_)
        · have hz := rfl (a := 0)
          have n_21 : v7 ≤ v5w15 := (iLE (a := v7) (b := v5w15) (by omega) (by omega)).mp c_20
          refine lv_iload hx hb dX13_owns_72 (lv_at hl 1 rfl) ?_
          rw [hQ]
          exact W.zret (v := 0) hx hb hr rfl (fun t ht hW9 => ⟨⟨0, (), rfl, (Or.inr ⟨rfl, fun q => absurd (hx_18.mpr (by have h := hQo.mp q; rw [show v7 = v5w15 from by omega] at h; exact h)) (by decide)⟩), ⟨by rw [ht]; exact hP, hD⟩⟩, hS.F ht⟩) hS.2.2 dX13_owns_74
        · have hz := rfl (a := 0)
          have n_22 : ¬ (v7 ≤ v5w15) := fun q => c_20 ((iLE (a := v7) (b := v5w15) (by omega) (by omega)).mpr q)
          refine lv_iload hx hb dX13_owns_22 (lv_at hl 1 rfl) ?_
          refine lv_if_ne (tgt := 59) hx hb dX13_owns_24 (by decide) (fun c_23 => absurd c_23 (by decide)) (fun _ => ?_)
          refine lv_aload_n hx hb dX13_owns_27 rfl (lv_at hl 3 rfl) ?_
          refine va_get (D := D) (ci := 13) (v := .ref z6) (C := RX13) (T := TX13) (N := 20) hx hb hg inG13 hown hK hP 0 rfl rfl 6 (by decide) (hg _ wd_719) (fun _ h9 => h9) rfl dX13_owns_28 ?_
          refine lv_aload_n hx hb dX13_owns_31 rfl (lv_at hl 2 rfl) ?_
          refine pg_getN (D := D) (ci := 12) (v := .ref v8) (C := RX12) (T := TX12) (N := 51) hx hb hg inG12 hown hK hP hb_5.1 hM6 rfl 19 (by decide) (hN.use (Cond.fieldLinkNest RX13 72 RX12 "who" "[I" RX13) 28 rfl rfl) (fun _ h9 => h9) hv8 dX13_owns_32 ?_
          refine lv_iload hx hb dX13_owns_35 (lv_at hl 0 rfl) ?_
          have hi_24 : vp_in (nI v5w15) 24 := (inbN v5w15 24 (by omega) (by omega))
          refine pg_iald hx hb hK hP hc8.1 0 hM9 rfl hi_24 dX13_owns_37 ?_
          have hp_25 := hf9 _ (vp_lt hi_24)
          obtain ⟨c_26, hc_27, ec_28⟩ := hp_25
          rw [ec_28]
          have hi_29 : vp_in (nI c_26) 40 := (inbN c_26 40 (by omega) (by omega))
          refine pg_iald hx hb hK hP i6.1 0 hM10 rfl hi_29 dX13_owns_38 ?_
          have hp_30 := hf10 _ (vp_lt hi_29)
          obtain ⟨c_31, hc_32, ec_33⟩ := hp_30
          rw [ec_33]
          refine lv_iconst (v := 5) hx hb dX13_owns_39 (by decide) ?_
          refine lv_icmp_ne (tgt := 63) hx hb dX13_owns_40 (by decide) (fun c_34 => ?_) (fun c_34 => ?_)
          · have hz := rfl (a := 0)
            have n_35 : ¬ (c_31 = 5) := fun q => c_34 ((iEQ (a := c_31) (b := 5) (by omega) (by omega)).mpr q)
            refine lv_iconst (v := 0) hx hb dX13_owns_63 (by decide) ?_
            refine lv_istore (lv' := [(4, .int 0), (5, .int (nI v5w15)), (3, .ref b3), (0, .ref za), (1, .int k1), (2, .int (nI k2))]) hx hb dX13_owns_64 hl (by decide) rfl (fun ls hl => ?_)
            refine lv_iinc (v := (nI (v5w15 + 1))) (lv' := [(5, .int (nI (v5w15 + 1))), (4, .int 0), (3, .ref b3), (0, .ref za), (1, .int k1), (2, .int (nI k2))]) hx hb dX13_owns_66 hl (k := 1) rfl (nI_1 v5w15) (by decide) rfl (fun ls hl => ?_)
            refine lv_goto (tgt := 13) hx hb dX13_owns_69 (by decide) ?_
            exact ih_13 0 (v5w15 + 1) H_19 _ _ (by omega) (Or.inl rfl) (by omega) (owTn hx_18 (fun q => by have q1 := q.1; rw [clN (by omega) ec_28, ec_33] at q1; have q3 := (iEQ (a := c_31) (b := 5) (by omega) (by omega)).mp q1; omega)) hW hP hD hS (lv_sub hl [0, 1, 2, 3, 4, 5] rfl)
          · have hz := rfl (a := 0)
            have n_36 : c_31 = 5 := (iEQ (a := c_31) (b := 5) (by omega) (by omega)).mp c_34
            refine lv_aload_n hx hb dX13_owns_43 rfl (lv_at hl 3 rfl) ?_
            refine va_get (D := D) (ci := 13) (v := .ref z7) (C := RX13) (T := TX13) (N := 20) hx hb hg inG13 hown hK hP 0 rfl rfl 7 (by decide) (hg _ wd_760) (fun _ h9 => h9) rfl dX13_owns_44 ?_
            refine lv_aload_n hx hb dX13_owns_47 rfl (lv_at hl 2 rfl) ?_
            refine pg_getN (D := D) (ci := 12) (v := .ref v8) (C := RX12) (T := TX12) (N := 51) hx hb hg inG12 hown hK hP hb_5.1 hM6 rfl 19 (by decide) (hN.use (Cond.fieldLinkNest RX13 72 RX12 "who" "[I" RX13) 28 rfl rfl) (fun _ h9 => h9) hv8 dX13_owns_48 ?_
            refine lv_iload hx hb dX13_owns_51 (lv_at hl 0 rfl) ?_
            refine pg_iald hx hb hK hP hc8.1 0 hM9 rfl (inbN v5w15 24 (by omega) (by omega)) dX13_owns_53 ?_
            rw [ec_28]
            refine pg_iald hx hb hK hP i7.1 0 hM11 rfl (inbN c_26 40 (by omega) (by omega)) dX13_owns_54 ?_
            refine lv_topi (fun f_37 ef_37 => ?_)
            refine lv_iload_n hx hb dX13_owns_55 rfl (lv_at hl 4 rfl) ?_
            refine lv_icmp_ne (tgt := 63) hx hb dX13_owns_56 (by decide) (fun c_38 => ?_) (fun c_38 => ?_)
            · have hz := rfl (a := 0)
              refine lv_iconst (v := 0) hx hb dX13_owns_63 (by decide) ?_
              refine lv_istore (lv' := [(4, .int 0), (5, .int (nI v5w15)), (3, .ref b3), (0, .ref za), (1, .int k1), (2, .int (nI k2))]) hx hb dX13_owns_64 hl (by decide) rfl (fun ls hl => ?_)
              refine lv_iinc (v := (nI (v5w15 + 1))) (lv' := [(5, .int (nI (v5w15 + 1))), (4, .int 0), (3, .ref b3), (0, .ref za), (1, .int k1), (2, .int (nI k2))]) hx hb dX13_owns_66 hl (k := 1) rfl (nI_1 v5w15) (by decide) rfl (fun ls hl => ?_)
              refine lv_goto (tgt := 13) hx hb dX13_owns_69 (by decide) ?_
              exact ih_13 0 (v5w15 + 1) H_19 _ _ (by omega) (Or.inl rfl) (by omega) (owTn hx_18 (fun q => by have q2 := q.2; rw [clN (by omega) ec_28, ← ef_37] at q2; exact c_38 q2)) hW hP hD hS (lv_sub hl [0, 1, 2, 3, 4, 5] rfl)
            · have hz := rfl (a := 0)
              refine lv_iconst (v := 1) hx hb dX13_owns_59 (by decide) ?_
              refine lv_goto (tgt := 64) hx hb dX13_owns_60 (by decide) ?_
              refine lv_istore (lv' := [(4, .int 1), (5, .int (nI v5w15)), (3, .ref b3), (0, .ref za), (1, .int k1), (2, .int (nI k2))]) hx hb dX13_owns_64 hl (by decide) rfl (fun ls hl => ?_)
              refine lv_iinc (v := (nI (v5w15 + 1))) (lv' := [(5, .int (nI (v5w15 + 1))), (4, .int 1), (3, .ref b3), (0, .ref za), (1, .int k1), (2, .int (nI k2))]) hx hb dX13_owns_66 hl (k := 1) rfl (nI_1 v5w15) (by decide) rfl (fun ls hl => ?_)
              refine lv_goto (tgt := 13) hx hb dX13_owns_69 (by decide) ?_
              exact ih_13 1 (v5w15 + 1) H_19 _ _ (by omega) (Or.inr rfl) (by omega) (owTy (by rw [clN (by omega) ec_28, ec_33, show c_31 = 5 from by omega]; rfl) (by rw [clN (by omega) ec_28, ← ef_37]; exact c_38)) hW hP hD hS (lv_sub hl [0, 1, 2, 3, 4, 5] rfl)
      · have hz := rfl (a := 0)
        refine lv_iload hx hb dX13_owns_13 (lv_at hl 0 rfl) ?_
        refine lv_aload_n hx hb dX13_owns_15 rfl (lv_at hl 2 rfl) ?_
        refine pg_getN (D := D) (ci := 12) (v := .int (nI v7)) (C := RX12) (T := TX12) (N := 51) hx hb hg inG12 hown hK hP hb_5.1 hM6 rfl 10 (by decide) (hN.use (Cond.fieldLinkNest RX13 68 RX12 "tenures" "I" RX13) 19 rfl rfl) (fun _ h9 => h9) hv7 dX13_owns_16 ?_
        refine lv_icmp_ge (tgt := 72) hx hb dX13_owns_19 (by decide) (fun c_39 => ?_) (fun c_39 => ?_)
        · have hz := rfl (a := 0)
          have n_40 : v7 ≤ v5w15 := (iLE (a := v7) (b := v5w15) (by omega) (by omega)).mp c_39
          refine lv_iload hx hb dX13_owns_72 (lv_at hl 1 rfl) ?_
          rw [hQ]
          exact W.zret (v := 1) hx hb hr rfl (fun t ht hW9 => ⟨⟨1, (), rfl, (Or.inl ⟨rfl, hQo.mpr (by rw [show v7 = v5w15 from by omega]; exact hx_18.mp rfl)⟩), ⟨by rw [ht]; exact hP, hD⟩⟩, hS.F ht⟩) hS.2.2 dX13_owns_74
        · have hz := rfl (a := 0)
          have n_41 : ¬ (v7 ≤ v5w15) := fun q => c_39 ((iLE (a := v7) (b := v5w15) (by omega) (by omega)).mpr q)
          refine lv_iload hx hb dX13_owns_22 (lv_at hl 1 rfl) ?_
          refine lv_if_ne (tgt := 59) hx hb dX13_owns_24 (by decide) (fun _ => ?_) (fun c_42 => absurd c_42 (by decide))
          refine lv_iconst (v := 1) hx hb dX13_owns_59 (by decide) ?_
          refine lv_goto (tgt := 64) hx hb dX13_owns_60 (by decide) ?_
          refine lv_istore (lv' := [(4, .int 1), (5, .int (nI v5w15)), (3, .ref b3), (0, .ref za), (1, .int k1), (2, .int (nI k2))]) hx hb dX13_owns_64 hl (by decide) rfl (fun ls hl => ?_)
          refine lv_iinc (v := (nI (v5w15 + 1))) (lv' := [(5, .int (nI (v5w15 + 1))), (4, .int 1), (3, .ref b3), (0, .ref za), (1, .int k1), (2, .int (nI k2))]) hx hb dX13_owns_66 hl (k := 1) rfl (nI_1 v5w15) (by decide) rfl (fun ls hl => ?_)
          refine lv_goto (tgt := 13) hx hb dX13_owns_69 (by decide) ?_
          exact ih_13 1 (v5w15 + 1) H_19 _ _ (by omega) (Or.inr rfl) (by omega) (owT1 hx_18) hW hP hD hS (lv_sub hl [0, 1, 2, 3, 4, 5] rfl)
  exact key_12 (24 - 0 + 1) 0 0 s.heap _ _ (by omega) (Or.inl rfl) (by omega) owT0 hW hP hD hS (lv_sub hl [0, 1, 2, 3, 4, 5] rfl)
set_option maxHeartbeats 4000000 in
set_option maxRecDepth 100000 in
theorem r_X13_way (l : Launch) (D : va_G) (cy : Nat → ClassId) (K : Kp) (L : List Nat) (M : Hp) (sz : Nat) (za : Nat) (z0 : Int32) (z1 : Nat) (z2 : Nat) (z3 : Nat) (z4 : Int32) (z5 : Int32) (z6 : Nat) (z7 : Nat) (z8 : Nat) (z9 : Nat) (z10 : Nat) (z11 : Nat) (z12 : Nat) (z13 : Nat) (z14 : Nat) (z15 : Nat) (z16 : Nat) (z17 : Nat) (z18 : Int32) (z19 : Nat) (k1 : Nat) (k2 : Int32) (hW : WOM cy K L M) (i1 : isk K L z1 23 8) (b2 : z2 ≤ 8) (b3 : z3 ≤ 40) (i6 : isk K L z6 47 40) (i7 : isk K L z7 48 40) (i8 : isk K L z8 49 8) (i9 : isk K L z9 50 8) (b10 : z10 ≤ 8) (i11 : isk K L z11 32 24) (i12 : isk K L z12 14 24) (i13 : isk K L z13 15 24) (i14 : isk K L z14 15 24) (i15 : isk K L z15 15 24) (b16 : z16 ≤ 24) (i17 : isk K L z17 14 24) (i19 : isk K L z19 15 25) (nk1 : k1 < 8) : Met l yX13_way (wsM yX13_way cX13_way 6 (some .int)) ({ frames := 1, cells := 0, slots := 0, locals := 25 }) (va_Pc [.ref za, .int (nI k1), .int k2] (PG D cy [(za, .inr (13, [.int z0, .ref z1, .int (nI z2), .int (nI z3), .int z4, .int z5, .ref z6, .ref z7, .ref z8, .ref z9, .int (nI z10), .ref z11, .ref z12, .ref z13, .ref z14, .ref z15, .int (nI z16), .ref z17, .int z18, .ref z19]))] L M sz)) (va_Qi (fun (r : Int32) (M9 : Hp) => WOM cy K L M9 ∧ fr K L [49, 50] M M9 ∧ ((∃ (j : Nat), r = (nI j) ∧ j ≤ 8))) (fun M9 t => PQ D [(za, .inr (13, [.int z0, .ref z1, .int (nI z2), .int (nI z3), .int z4, .int z5, .ref z6, .ref z7, .ref z8, .ref z9, .int (nI z10), .ref z11, .ref z12, .ref z13, .ref z14, .ref z15, .int (nI z16), .ref z17, .int z18, .ref z19]))] L M9 (va_A ([(za, .inr (13, [.int z0, .ref z1, .int (nI z2), .int (nI z3), .int z4, .int z5, .ref z6, .ref z7, .ref z8, .ref z9, .int (nI z10), .ref z11, .ref z12, .ref z13, .ref z14, .ref z15, .int (nI z16), .ref z17, .int z18, .ref z19]))] ++ va_pl L M) sz) t) (va_A ([(za, .inr (13, [.int z0, .ref z1, .int (nI z2), .int (nI z3), .int z4, .int z5, .ref z6, .ref z7, .ref z8, .ref z9, .int (nI z10), .ref z11, .ref z12, .ref z13, .ref z14, .ref z15, .int (nI z16), .ref z17, .int z18, .ref z19]))] ++ va_pl L M) sz)) 0 0 (va_A ([(za, .inr (13, [.int z0, .ref z1, .int (nI z2), .int (nI z3), .int z4, .int z5, .ref z6, .ref z7, .ref z8, .ref z9, .int (nI z10), .ref z11, .ref z12, .ref z13, .ref z14, .ref z15, .int (nI z16), .ref z17, .int z18, .ref z19]))] ++ va_pl L M) sz) := by
  refine Met.ofW (cc := cX13_way) (maxL := 6) (ret := (some .int)) (by decide) rfl ?_
  intro p e s m args below meth c s₁ B hml hv
  obtain ⟨rfl, hsz, hP, hK, hD0, hN⟩ := hv
  have hx := B.exec
  have hb := B.bytes
  have hr := B.returns
  have hts := atoms_spec (ws := (wsM yX13_way cX13_way 6 (some .int))) B.pre
  have hg : ∀ w ∈ lw_good, w.before _ s = true := fun w h => hts w (List.mem_cons_of_mem _ h)
  have hown : s.vm.findClass RX13 = some m.cls := findClass_of_methodNamed B.named
  have hlocks := B.notSynchronized
  subst hsz
  have hD := hD0.self (sz := s.heap.size)
  generalize hAe : va_A ([(za, .inr (13, [.int z0, .ref z1, .int (nI z2), .int (nI z3), .int z4, .int z5, .ref z6, .ref z7, .ref z8, .ref z9, .int (nI z10), .ref z11, .ref z12, .ref z13, .ref z14, .ref z15, .int (nI z16), .ref z17, .int z18, .ref z19]))] ++ va_pl L M) s.heap.size = A at hD ⊢
  have hA : ∀ q : Nat, s.heap.size ≤ q → A q := fun q h => by rw [← hAe]; exact Or.inr h
  have hS : va_S A s.heap s.heap [] := va_S.rf
  have hl := lv_entry ([.ref za, .int (nI k1), .int k2]) (n := 6) (Nat.le_of_ble_eq_true rfl)
  rw [lg_entry_eq]
  generalize (lg_sl ([.ref za, .int (nI k1), .int k2]) ++ List.replicate (6 - (lg_sl ([.ref za, .int (nI k1), .int k2])).length) Slot.unset).toArray = ls at hl ⊢
  refine W.nameQ (fun Q hQ => ?_)
  refine W.nameR (fun R hR => ?_)
  have hRf : 1 ≤ R.frames := by rw [hR]; exact Nat.le_of_ble_eq_true rfl
  have hRl : 25 ≤ R.locals := by rw [hR]; exact Nat.le_of_ble_eq_true rfl
  have hRc : 0 ≤ R.cells := by rw [hR]; exact Nat.le_of_ble_eq_true rfl
  have hRs : 0 ≤ R.slots := by rw [hR]; exact Nat.le_of_ble_eq_true rfl
  have hF : fr K L [49, 50] M M := fr.rf
  have hl : lv_has ls 6 [(0, .ref za), (1, .int (nI k1)), (2, .int k2)] := hl
  have hW0 := hW
  refine lv_iconst (v := 0) hx hb dX13_way_0 (by decide) ?_
  refine lv_istore_n (lv' := [(3, .int 0), (0, .ref za), (1, .int (nI k1)), (2, .int k2)]) hx hb dX13_way_1 rfl hl (by decide) rfl (fun ls hl => ?_)
  obtain ⟨f1, hM1⟩ := hW.open_50 i9
  have key_2 : ∀ (fu_4 : Nat) (v3w5 : Nat) (gFw5 : Nat → Int32) (M_8 : Hp) (H_9 : Heap) (locs : List Loc) (ls : Array Slot), 8 - v3w5 < fu_4 → M_8 z9 = .inl (cy 14, 8, .inl (gFw5)) → v3w5 ≤ 8 → (∀ k : Nat, k < v3w5 → gFw5 k = nI (D0 k2 k)) → WOM cy K L M_8 → fr K L [49, 50] M M_8 → va_P D vwCl ([(za, .inr (13, [.int z0, .ref z1, .int (nI z2), .int (nI z3), .int z4, .int z5, .ref z6, .ref z7, .ref z8, .ref z9, .int (nI z10), .ref z11, .ref z12, .ref z13, .ref z14, .ref z15, .int (nI z16), .ref z17, .int z18, .ref z19]))] ++ va_pl L M_8) H_9 → va_D A ([(za, .inr (13, [.int z0, .ref z1, .int (nI z2), .int (nI z3), .int z4, .int z5, .ref z6, .ref z7, .ref z8, .ref z9, .int (nI z10), .ref z11, .ref z12, .ref z13, .ref z14, .ref z15, .int (nI z16), .ref z17, .int z18, .ref z19]))] ++ va_pl L M_8) → va_S A s.heap H_9 locs → lv_has ls 6 [(3, .int (nI v3w5)), (0, .ref za), (1, .int (nI k1)), (2, .int k2)] → W p l e R s m ([.ref za, .int (nI k1), .int k2] : List Value).toArray below meth c H_9 locs 0 0 Q (F0 m 2 ls []) := by
    intro fu_4
    induction fu_4 with
    | zero => intro v3w5 gFw5 M_8 H_9 locs ls h; exact absurd h (Nat.not_lt_zero _)
    | succ fu_4 ih_3 =>
      intro v3w5 gFw5 M_8 H_9 locs ls hfu hM_10 hx_6 hx_7 hW hF hP hD hS hl
      refine lv_iload_n hx hb dX13_way_2 rfl (lv_at hl 0 rfl) ?_
      refine lv_bipush (v := 8) hx hb dX13_way_3 (by decide) ?_
      refine lv_icmp_ge (tgt := 31) hx hb dX13_way_5 (by decide) (fun c_11 => ?_) (fun c_11 => ?_)
      · have hz := rfl (a := 0)
        have n_12 : 8 ≤ v3w5 := (iLE (a := 8) (b := v3w5) (by omega) (by omega)).mp c_11
        have hLK0 : LK gFw5 (D0 k2) := LK.fill (fun k hk => hx_7 k (by omega))
        refine lv_iconst (v := 0) hx hb dX13_way_31 (by decide) ?_
        refine lv_istore_n (lv' := [(3, .int 0), (0, .ref za), (1, .int (nI k1)), (2, .int k2)]) hx hb dX13_way_32 rfl hl (by decide) rfl (fun ls hl => ?_)
        have hl : lv_has ls 6 [(3, .int 0), (0, .ref za), (1, .int (nI k1)), (2, .int k2)] := lv_sub hl [0, 1, 2, 3] rfl
        have key_13 : ∀ (fu_15 : Nat) (v3w16 : Nat) (gFw16 : Nat → Int32) (gDw16 : Nat → Nat) (M_21 : Hp) (H_22 : Heap) (locs : List Loc) (ls : Array Slot), 8 - v3w16 < fu_15 → M_21 z9 = .inl (cy 14, 8, .inl (gFw16)) → v3w16 ≤ 8 → LK gFw16 gDw16 → BG (owW M z1 z6 z7) z2 k2 gDw16 → B3 (owW M z1 z6 z7) z2 gDw16 v3w16 → WOM cy K L M_21 → fr K L [49, 50] M M_21 → va_P D vwCl ([(za, .inr (13, [.int z0, .ref z1, .int (nI z2), .int (nI z3), .int z4, .int z5, .ref z6, .ref z7, .ref z8, .ref z9, .int (nI z10), .ref z11, .ref z12, .ref z13, .ref z14, .ref z15, .int (nI z16), .ref z17, .int z18, .ref z19]))] ++ va_pl L M_21) H_22 → va_D A ([(za, .inr (13, [.int z0, .ref z1, .int (nI z2), .int (nI z3), .int z4, .int z5, .ref z6, .ref z7, .ref z8, .ref z9, .int (nI z10), .ref z11, .ref z12, .ref z13, .ref z14, .ref z15, .int (nI z16), .ref z17, .int z18, .ref z19]))] ++ va_pl L M_21) → va_S A s.heap H_22 locs → lv_has ls 6 [(3, .int (nI v3w16)), (0, .ref za), (1, .int (nI k1)), (2, .int k2)] → W p l e R s m ([.ref za, .int (nI k1), .int k2] : List Value).toArray below meth c H_22 locs 0 0 Q (F0 m 33 ls []) := by
          intro fu_15
          induction fu_15 with
          | zero => intro v3w16 gFw16 gDw16 M_21 H_22 locs ls h; exact absurd h (Nat.not_lt_zero _)
          | succ fu_15 ih_14 =>
            intro v3w16 gFw16 gDw16 M_21 H_22 locs ls hfu hM_23 hx_17 hx_18 hx_19 hx_20 hW hF hP hD hS hl
            refine lv_iload_n hx hb dX13_way_33 rfl (lv_at hl 0 rfl) ?_
            refine lv_bipush (v := 8) hx hb dX13_way_34 (by decide) ?_
            refine lv_icmp_ge (tgt := 127) hx hb dX13_way_36 (by decide) (fun c_24 => ?_) (fun c_24 => ?_)
            · have hz := rfl (a := 0)
              have n_25 : 8 ≤ v3w16 := (iLE (a := 8) (b := v3w16) (by omega) (by omega)).mp c_24
              have hW7 := BFw b2 hx_19 (show B3 (owW M z1 z6 z7) z2 gDw16 8 by rw [show 8 = v3w16 from by omega]; exact hx_20)
              refine lv_aload_n hx hb dX13_way_127 rfl (lv_at hl 1 rfl) ?_
              refine va_get (D := D) (ci := 13) (v := .ref z9) (C := RX13) (T := TX13) (N := 20) hx hb hg inG13 hown hK hP 0 rfl rfl 9 (by decide) (hg _ wd_886) (fun _ h9 => h9) rfl dX13_way_128 ?_
              refine lv_iload_n hx hb dX13_way_131 rfl (lv_at hl 2 rfl) ?_
              refine pg_iald hx hb hK hP i9.1 0 hM_23 rfl (inbN k1 8 (by omega) (by omega)) dX13_way_132 ?_
              refine lv_topi (fun f_26 ef_26 => ?_)
              have hLk := hx_18 k1 (by omega)
              have hd100 : gDw16 k1 ≤ 100 := hLk.2
              obtain rfl : f_26 = nI (gDw16 k1) := by rw [ef_26, nI_cl (by omega)]; exact hLk.1
              refine lv_bipush (v := 100) hx hb dX13_way_133 (by decide) ?_
              refine lv_icmp_lt (tgt := 140) hx hb dX13_way_135 (by decide) (fun c_27 => ?_) (fun c_27 => ?_)
              · have hz := rfl (a := 0)
                have n_28 : (gDw16 k1) < 100 := (iLT (a := (gDw16 k1)) (b := 100) (by omega) (by omega)).mp c_27
                have hk17 : gDw16 k1 ≤ 7 := by
                  rcases Nat.eq_zero_or_pos (gDw16 k1) with q | q
                  · omega
                  · exact (hW7 k1 (by omega) q (by omega)).1
                refine lv_iconst (v := 0) hx hb dX13_way_140 (by decide) ?_
                refine lv_istore_n (lv' := [(3, .int 0), (0, .ref za), (1, .int (nI k1)), (2, .int k2)]) hx hb dX13_way_141 rfl hl (by decide) rfl (fun ls hl => ?_)
                refine lv_iload_n hx hb dX13_way_142 rfl (lv_at hl 2 rfl) ?_
                refine lv_istore (lv' := [(4, .int (nI k1)), (3, .int 0), (0, .ref za), (1, .int (nI k1)), (2, .int k2)]) hx hb dX13_way_143 hl (by decide) rfl (fun ls hl => ?_)
                refine lv_aload_n hx hb dX13_way_145 rfl (lv_at hl 2 rfl) ?_
                refine va_get (D := D) (ci := 13) (v := .ref z8) (C := RX13) (T := TX13) (N := 20) hx hb hg inG13 hown hK hP 0 rfl rfl 8 (by decide) (hg _ wd_724) (fun _ h9 => h9) rfl dX13_way_146 ?_
                refine lv_iconst (v := 0) hx hb dX13_way_149 (by decide) ?_
                refine lv_iload hx hb dX13_way_150 (lv_at hl 0 rfl) ?_
                obtain ⟨f29, hM29⟩ := hW.open_49 i8
                refine pg_iast hx hb hK hP hD hS i8.1 0 hM29 rfl (inbN 0 8 (by omega) (by omega)) dX13_way_152 (fun H_30 locs hP hD hS => ?_)
                obtain ⟨M_31, eM_31⟩ : ∃ M1 : Hp, M1 = va_up M_21 z8 (.inl (cy 14, 8, .inl (upd f29 (0 : Int32).toNatClampNeg (nI k1)))) := ⟨_, rfl⟩
                have hP : va_P D vwCl ([(za, .inr (13, [.int z0, .ref z1, .int (nI z2), .int (nI z3), .int z4, .int z5, .ref z6, .ref z7, .ref z8, .ref z9, .int (nI z10), .ref z11, .ref z12, .ref z13, .ref z14, .ref z15, .int (nI z16), .ref z17, .int z18, .ref z19]))] ++ va_pl L M_31) H_30 := by rw [eM_31]; exact hP
                have hD : va_D A ([(za, .inr (13, [.int z0, .ref z1, .int (nI z2), .int (nI z3), .int z4, .int z5, .ref z6, .ref z7, .ref z8, .ref z9, .int (nI z10), .ref z11, .ref z12, .ref z13, .ref z14, .ref z15, .int (nI z16), .ref z17, .int z18, .ref z19]))] ++ va_pl L M_31) := by rw [eM_31]; exact hD
                have hW : WOM cy K L M_31 := by rw [eM_31]; exact hW.up_49 i8 ⟨_, rfl⟩
                have hF : fr K L [49, 50] M M_31 := by rw [eM_31]; exact hF.up i8 (by decide)
                have hM_32 : M_31 z8 = .inl (cy 14, 8, .inl (upd f29 (0 : Int32).toNatClampNeg (nI k1))) := by rw [eM_31]; exact va_up_self _ _ _
                have hM_33 : M_31 z9 = .inl (cy 14, 8, .inl (gFw16)) := by rw [eM_31, va_up_ne _ _ (i9.neT i8 (by decide))]; exact hM_23
                obtain ⟨f_34, ef_34⟩ : ∃ f : Nat → Int32, f = upd f29 (0 : Int32).toNatClampNeg (nI k1) := ⟨_, rfl⟩
                rw [← ef_34] at hM_32
                have hl : lv_has ls 6 [(4, .int (nI k1)), (3, .int 0), (0, .ref za), (1, .int (nI k1)), (2, .int k2)] := lv_sub hl [0, 1, 2, 3, 4] rfl
                have key_35 : ∀ (fu_37 : Nat) (v3w38 : Nat) (v4w38 : Nat) (M_41 : Hp) (H_42 : Heap) (locs : List Loc) (ls : Array Slot), gDw16 v4w38 < fu_37 → M_41 z9 = .inl (cy 14, 8, .inl (gFw16)) → v4w38 < 8 → v3w38 + gDw16 v4w38 = gDw16 k1 → WOM cy K L M_41 → fr K L [49, 50] M M_41 → va_P D vwCl ([(za, .inr (13, [.int z0, .ref z1, .int (nI z2), .int (nI z3), .int z4, .int z5, .ref z6, .ref z7, .ref z8, .ref z9, .int (nI z10), .ref z11, .ref z12, .ref z13, .ref z14, .ref z15, .int (nI z16), .ref z17, .int z18, .ref z19]))] ++ va_pl L M_41) H_42 → va_D A ([(za, .inr (13, [.int z0, .ref z1, .int (nI z2), .int (nI z3), .int z4, .int z5, .ref z6, .ref z7, .ref z8, .ref z9, .int (nI z10), .ref z11, .ref z12, .ref z13, .ref z14, .ref z15, .int (nI z16), .ref z17, .int z18, .ref z19]))] ++ va_pl L M_41) → va_S A s.heap H_42 locs → lv_has ls 6 [(4, .int (nI v4w38)), (3, .int (nI v3w38)), (0, .ref za), (1, .int (nI k1)), (2, .int k2)] → W p l e R s m ([.ref za, .int (nI k1), .int k2] : List Value).toArray below meth c H_42 locs 0 0 Q (F0 m 153 ls []) := by
                  intro fu_37
                  induction fu_37 with
                  | zero => intro v3w38 v4w38 M_41 H_42 locs ls h; exact absurd h (Nat.not_lt_zero _)
                  | succ fu_37 ih_36 =>
                    intro v3w38 v4w38 M_41 H_42 locs ls hfu hM_43 hx_39 hx_40 hW hF hP hD hS hl
                    refine lv_iload hx hb dX13_way_153 (lv_at hl 0 rfl) ?_
                    refine lv_iload_n hx hb dX13_way_155 rfl (lv_at hl 4 rfl) ?_
                    refine lv_icmp_eq (tgt := 216) hx hb dX13_way_156 (by decide) (fun c_44 => ?_) (fun c_44 => ?_)
                    · have hz := rfl (a := 0)
                      refine lv_iload_n hx hb dX13_way_216 rfl (lv_at hl 1 rfl) ?_
                      refine lv_iconst (v := 1) hx hb dX13_way_217 (by decide) ?_
                      refine lv_iadd hx hb dX13_way_218 ?_
                      refine lv_topi (fun f_45 ef_45 => ?_)
                      obtain rfl : f_45 = (nI (v3w38 + 1)) := ef_45.trans (nI_add v3w38 1)
                      rw [hQ]
                      exact W.iret (v := (nI (v3w38 + 1))) hx hb hr (fun t ht hW9 => ⟨⟨(nI (v3w38 + 1)), M_41, rfl, ⟨hW, hF, ⟨(v3w38 + 1), rfl, (by omega)⟩⟩, ⟨by rw [ht]; exact hP, hD⟩⟩, hS.F ht⟩) hS.2.2 dX13_way_219
                    · have hz := rfl (a := 0)
                      have hpos : 0 < gDw16 v4w38 := by
                        rcases Nat.eq_zero_or_pos (gDw16 v4w38) with q | q
                        · exact absurd (hx_19.1 v4w38 (by omega) q) c_44
                        · exact q
                      obtain ⟨hle7, hxb⟩ := hW7 v4w38 (by omega) hpos (by omega)
                      refine lv_iconst (v := 0) hx hb dX13_way_159 (by decide) ?_
                      refine lv_istore (lv' := [(5, .int 0), (4, .int (nI v4w38)), (3, .int (nI v3w38)), (0, .ref za), (1, .int (nI k1)), (2, .int k2)]) hx hb dX13_way_160 hl (by decide) rfl (fun ls hl => ?_)
                      have key_46 : ∀ (fu_48 : Nat) (v5w49 : Nat) (M_51 : Hp) (H_52 : Heap) (locs : List Loc) (ls : Array Slot), 8 - v5w49 < fu_48 → M_51 z9 = .inl (cy 14, 8, .inl (gFw16)) → (∃ b : Nat, v5w49 ≤ b ∧ b < z2 ∧ (owW M z1 z6 z7) v4w38 b ∧ gDw16 b + 1 = gDw16 v4w38) → WOM cy K L M_51 → fr K L [49, 50] M M_51 → va_P D vwCl ([(za, .inr (13, [.int z0, .ref z1, .int (nI z2), .int (nI z3), .int z4, .int z5, .ref z6, .ref z7, .ref z8, .ref z9, .int (nI z10), .ref z11, .ref z12, .ref z13, .ref z14, .ref z15, .int (nI z16), .ref z17, .int z18, .ref z19]))] ++ va_pl L M_51) H_52 → va_D A ([(za, .inr (13, [.int z0, .ref z1, .int (nI z2), .int (nI z3), .int z4, .int z5, .ref z6, .ref z7, .ref z8, .ref z9, .int (nI z10), .ref z11, .ref z12, .ref z13, .ref z14, .ref z15, .int (nI z16), .ref z17, .int z18, .ref z19]))] ++ va_pl L M_51) → va_S A s.heap H_52 locs → lv_has ls 6 [(5, .int (nI v5w49)), (4, .int (nI v4w38)), (3, .int (nI v3w38)), (0, .ref za), (1, .int (nI k1)), (2, .int k2)] → W p l e R s m ([.ref za, .int (nI k1), .int k2] : List Value).toArray below meth c H_52 locs 0 0 Q (F0 m 162 ls []) := by
                        intro fu_48
                        induction fu_48 with
                        | zero => intro v5w49 M_51 H_52 locs ls h; exact absurd h (Nat.not_lt_zero _)
                        | succ fu_48 ih_47 =>
                          intro v5w49 M_51 H_52 locs ls hfu hM_53 hx_50 hW hF hP hD hS hl
                          obtain ⟨b0, hb1, hb2, hob, hdb⟩ := hx_50
                          refine lv_aload_n hx hb dX13_way_162 rfl (lv_at hl 3 rfl) ?_
                          refine va_get (D := D) (ci := 13) (v := .ref z9) (C := RX13) (T := TX13) (N := 20) hx hb hg inG13 hown hK hP 0 rfl rfl 9 (by decide) (hg _ wd_886) (fun _ h9 => h9) rfl dX13_way_163 ?_
                          refine lv_iload hx hb dX13_way_166 (lv_at hl 0 rfl) ?_
                          refine pg_iald hx hb hK hP i9.1 0 hM_53 rfl (inbN v5w49 8 (by omega) (by omega)) dX13_way_168 ?_
                          refine lv_topi (fun f_54 ef_54 => ?_)
                          have hLk := hx_18 v5w49 (by omega)
                          have hd100 : gDw16 v5w49 ≤ 100 := hLk.2
                          obtain rfl : f_54 = nI (gDw16 v5w49) := by rw [ef_54, nI_cl (by omega)]; exact hLk.1
                          refine lv_aload_n hx hb dX13_way_169 rfl (lv_at hl 3 rfl) ?_
                          refine va_get (D := D) (ci := 13) (v := .ref z9) (C := RX13) (T := TX13) (N := 20) hx hb hg inG13 hown hK hP 0 rfl rfl 9 (by decide) (hg _ wd_886) (fun _ h9 => h9) rfl dX13_way_170 ?_
                          refine lv_iload hx hb dX13_way_173 (lv_at hl 1 rfl) ?_
                          refine pg_iald hx hb hK hP i9.1 0 hM_53 rfl (inbN v4w38 8 (by omega) (by omega)) dX13_way_175 ?_
                          refine lv_topi (fun f_55 ef_55 => ?_)
                          have hLk := hx_18 v4w38 (by omega)
                          have hd100 : gDw16 v4w38 ≤ 100 := hLk.2
                          obtain rfl : f_55 = nI (gDw16 v4w38) := by rw [ef_55, nI_cl (by omega)]; exact hLk.1
                          refine lv_iconst (v := 1) hx hb dX13_way_176 (by decide) ?_
                          refine lv_isub hx hb dX13_way_177 ?_
                          refine lv_topi (fun f_56 ef_56 => ?_)
                          obtain rfl : f_56 = (nI ((gDw16 v4w38) - 1)) := ef_56.trans (nI_prd (by omega))
                          refine lv_icmp_ne (tgt := 192) hx hb dX13_way_178 (by decide) (fun c_57 => ?_) (fun c_57 => ?_)
                          · have hz := rfl (a := 0)
                            have n_58 : ¬ ((gDw16 v5w49) = ((gDw16 v4w38) - 1)) := fun q => c_57 ((iEQ (a := (gDw16 v5w49)) (b := ((gDw16 v4w38) - 1)) (by omega) (by omega)).mpr q)
                            refine lv_iinc (v := (nI (v5w49 + 1))) (lv' := [(5, .int (nI (v5w49 + 1))), (4, .int (nI v4w38)), (3, .int (nI v3w38)), (0, .ref za), (1, .int (nI k1)), (2, .int k2)]) hx hb dX13_way_192 hl (k := 0) rfl (nI_1 v5w49) (by decide) rfl (fun ls hl => ?_)
                            refine lv_goto (tgt := 162) hx hb dX13_way_195 (by decide) ?_
                            exact ih_47 (v5w49 + 1) M_51 H_52 _ _ (by omega) hM_53 (exNext (P := fun b => (owW M z1 z6 z7) v4w38 b ∧ gDw16 b + 1 = gDw16 v4w38) hb1 hb2 ⟨hob, hdb⟩ (fun q => by have q2 := q.2; omega)) hW hF hP hD hS (lv_sub hl [0, 1, 2, 3, 4, 5] rfl)
                          · have hz := rfl (a := 0)
                            have n_59 : (gDw16 v5w49) = ((gDw16 v4w38) - 1) := (iEQ (a := (gDw16 v5w49)) (b := ((gDw16 v4w38) - 1)) (by omega) (by omega)).mp c_57
                            refine lv_aload_n hx hb dX13_way_181 rfl (lv_at hl 3 rfl) ?_
                            refine lv_iload hx hb dX13_way_182 (lv_at hl 1 rfl) ?_
                            refine lv_iload hx hb dX13_way_184 (lv_at hl 0 rfl) ?_
                            have hPc : va_P D vwCl ([(za, .inr (13, [.int z0, .ref z1, .int (nI z2), .int (nI z3), .int z4, .int z5, .ref z6, .ref z7, .ref z8, .ref z9, .int (nI z10), .ref z11, .ref z12, .ref z13, .ref z14, .ref z15, .int (nI z16), .ref z17, .int z18, .ref z19]))] ++ va_pl L M_51) H_52 := hP
                            have hDc : va_D A ([(za, .inr (13, [.int z0, .ref z1, .int (nI z2), .int (nI z3), .int z4, .int z5, .ref z6, .ref z7, .ref z8, .ref z9, .int (nI z10), .ref z11, .ref z12, .ref z13, .ref z14, .ref z15, .int (nI z16), .ref z17, .int z18, .ref z19]))] ++ va_pl L M_51) := hD
                            have hFc : ∀ q, va_A ([(za, .inr (13, [.int z0, .ref z1, .int (nI z2), .int (nI z3), .int z4, .int z5, .ref z6, .ref z7, .ref z8, .ref z9, .int (nI z10), .ref z11, .ref z12, .ref z13, .ref z14, .ref z15, .int (nI z16), .ref z17, .int z18, .ref z19]))] ++ va_pl L M_51) H_52.size q → A q := pg_free hDc hS hA
                            refine va_calli (va_runV (As := [.int (nI v4w38), .int (nI v5w49)]) (rest := []) ⟨hx, hb, hml, hown, hg⟩ (r_ownsS l D cy K L M_51 H_52.size za z0 z1 z2 z3 z4 z5 z6 z7 z8 z9 z10 z11 z12 z13 z14 z15 z16 z17 z18 z19 (nI v4w38) v5w49  hW i1 b2 b3 i6 i7 i8 i9 b10 i11 i12 i13 i14 i15 b16 i17 i19 (by omega)) (cwV 2 hg (gV wd_887 wd_888 wd_889 wd_717 wd_890) rfl rfl rfl (by decide +kernel) ⟨(Nat.le_trans (Nat.le_of_ble_eq_true rfl) hRf), (Nat.le_trans (Nat.le_of_ble_eq_true rfl) hRl)⟩) ⟨PG.blind, va_recv hK hP (ci := 13) (q0 := 0) rfl rfl, fun U hU hW => ⟨rfl, PG.at hPc hK hDc hN hU hW⟩⟩ rfl rfl hl.1 rfl (lv_room (Nat.le_of_ble_eq_true rfl)) dX13_way_186 ⟨(Nat.le_trans (Nat.le_of_ble_eq_true rfl) hRc), (Nat.le_trans (Nat.le_of_ble_eq_true rfl) hRs)⟩) hS (fun q _ h => hFc q h) hFc (fun r_61 M_62 t H_60 locs ht hvm hw hB hz1 hk1 hS => ?_)
                            have hp_63 := hw
                            obtain ⟨hP1, hD1⟩ := hB
                            rw [ht] at hP1
                            have hP : va_P D vwCl ([(za, .inr (13, [.int z0, .ref z1, .int (nI z2), .int (nI z3), .int z4, .int z5, .ref z6, .ref z7, .ref z8, .ref z9, .int (nI z10), .ref z11, .ref z12, .ref z13, .ref z14, .ref z15, .int (nI z16), .ref z17, .int z18, .ref z19]))] ++ va_pl L M_51) H_60 := hP1
                            have hD : va_D A ([(za, .inr (13, [.int z0, .ref z1, .int (nI z2), .int (nI z3), .int z4, .int z5, .ref z6, .ref z7, .ref z8, .ref z9, .int (nI z10), .ref z11, .ref z12, .ref z13, .ref z14, .ref z15, .int (nI z16), .ref z17, .int z18, .ref z19]))] ++ va_pl L M_51) := hD1.mono hFc
                            rcases hp_63 with ⟨rfl, c_64⟩ | ⟨rfl, c_65⟩
                            · have hz := rfl (a := 0)
                              have hwo0 : (owW M z1 z6 z7) v4w38 v5w49 := (owS.mv hW0 i1 i6 i7 hF (by decide) (by omega)).mp c_64
                              refine lv_if_ne (tgt := 198) hx hb dX13_way_189 (by decide) (fun _ => ?_) (fun c_66 => absurd c_66 (by decide))
                              refine lv_iload hx hb dX13_way_198 (lv_at hl 0 rfl) ?_
                              refine lv_istore (lv' := [(4, .int (nI v5w49)), (5, .int (nI v5w49)), (3, .int (nI v3w38)), (0, .ref za), (1, .int (nI k1)), (2, .int k2)]) hx hb dX13_way_200 hl (by decide) rfl (fun ls hl => ?_)
                              refine lv_iinc (v := (nI (v3w38 + 1))) (lv' := [(3, .int (nI (v3w38 + 1))), (4, .int (nI v5w49)), (5, .int (nI v5w49)), (0, .ref za), (1, .int (nI k1)), (2, .int k2)]) hx hb dX13_way_202 hl (k := 2) rfl (nI_1 v3w38) (by decide) rfl (fun ls hl => ?_)
                              refine lv_aload_n hx hb dX13_way_205 rfl (lv_at hl 3 rfl) ?_
                              refine va_get (D := D) (ci := 13) (v := .ref z8) (C := RX13) (T := TX13) (N := 20) hx hb hg inG13 hown hK hP 0 rfl rfl 8 (by decide) (hg _ wd_724) (fun _ h9 => h9) rfl dX13_way_206 ?_
                              refine lv_iload_n hx hb dX13_way_209 rfl (lv_at hl 0 rfl) ?_
                              refine lv_iload hx hb dX13_way_210 (lv_at hl 1 rfl) ?_
                              obtain ⟨f67, hM67⟩ := hW.open_49 i8
                              refine pg_iast hx hb hK hP hD hS i8.1 0 hM67 rfl (inbN (v3w38 + 1) 8 (by omega) (by omega)) dX13_way_212 (fun H_68 locs hP hD hS => ?_)
                              obtain ⟨M_69, eM_69⟩ : ∃ M1 : Hp, M1 = va_up M_51 z8 (.inl (cy 14, 8, .inl (upd f67 ((nI (v3w38 + 1)) : Int32).toNatClampNeg (nI v5w49)))) := ⟨_, rfl⟩
                              have hP : va_P D vwCl ([(za, .inr (13, [.int z0, .ref z1, .int (nI z2), .int (nI z3), .int z4, .int z5, .ref z6, .ref z7, .ref z8, .ref z9, .int (nI z10), .ref z11, .ref z12, .ref z13, .ref z14, .ref z15, .int (nI z16), .ref z17, .int z18, .ref z19]))] ++ va_pl L M_69) H_68 := by rw [eM_69]; exact hP
                              have hD : va_D A ([(za, .inr (13, [.int z0, .ref z1, .int (nI z2), .int (nI z3), .int z4, .int z5, .ref z6, .ref z7, .ref z8, .ref z9, .int (nI z10), .ref z11, .ref z12, .ref z13, .ref z14, .ref z15, .int (nI z16), .ref z17, .int z18, .ref z19]))] ++ va_pl L M_69) := by rw [eM_69]; exact hD
                              have hW : WOM cy K L M_69 := by rw [eM_69]; exact hW.up_49 i8 ⟨_, rfl⟩
                              have hF : fr K L [49, 50] M M_69 := by rw [eM_69]; exact hF.up i8 (by decide)
                              have hM_70 : M_69 z8 = .inl (cy 14, 8, .inl (upd f67 ((nI (v3w38 + 1)) : Int32).toNatClampNeg (nI v5w49))) := by rw [eM_69]; exact va_up_self _ _ _
                              have hM_71 : M_69 z9 = .inl (cy 14, 8, .inl (gFw16)) := by rw [eM_69, va_up_ne _ _ (i9.neT i8 (by decide))]; exact hM_53
                              obtain ⟨f_72, ef_72⟩ : ∃ f : Nat → Int32, f = upd f67 ((nI (v3w38 + 1)) : Int32).toNatClampNeg (nI v5w49) := ⟨_, rfl⟩
                              rw [← ef_72] at hM_70
                              refine lv_goto (tgt := 153) hx hb dX13_way_213 (by decide) ?_
                              exact ih_36 (v3w38 + 1) v5w49 M_69 H_68 _ _ (by omega) hM_71 (by omega) (by omega) hW hF hP hD hS (lv_sub hl [1, 0, 3, 4, 5] rfl)
                            · have hz := rfl (a := 0)
                              have hwn0 : ¬ (owW M z1 z6 z7) v4w38 v5w49 := fun q => c_65 ((owS.mv hW0 i1 i6 i7 hF (by decide) (by omega)).mpr q)
                              refine lv_if_ne (tgt := 198) hx hb dX13_way_189 (by decide) (fun c_73 => absurd c_73 (by decide)) (fun _ => ?_)
                              refine lv_iinc (v := (nI (v5w49 + 1))) (lv' := [(5, .int (nI (v5w49 + 1))), (4, .int (nI v4w38)), (3, .int (nI v3w38)), (0, .ref za), (1, .int (nI k1)), (2, .int k2)]) hx hb dX13_way_192 hl (k := 0) rfl (nI_1 v5w49) (by decide) rfl (fun ls hl => ?_)
                              refine lv_goto (tgt := 162) hx hb dX13_way_195 (by decide) ?_
                              exact ih_47 (v5w49 + 1) M_51 H_60 _ _ (by omega) hM_53 (exNext (P := fun b => (owW M z1 z6 z7) v4w38 b ∧ gDw16 b + 1 = gDw16 v4w38) hb1 hb2 ⟨hob, hdb⟩ (fun q => hwn0 q.1)) hW hF hP hD hS (lv_sub hl [0, 1, 2, 3, 4, 5] rfl)
                      exact key_46 (8 - 0 + 1) 0 M_41 H_42 _ _ (by omega) hM_43 (by obtain ⟨b, g1, g2, g3⟩ := hxb; exact ⟨b, Nat.zero_le _, g1, g2, g3⟩) hW hF hP hD hS (lv_sub hl [0, 1, 2, 3, 4, 5] rfl)
                exact key_35 (gDw16 k1 + 1) 0 k1 M_31 H_30 _ _ (by omega) hM_33 (by omega) (by omega) hW hF hP hD hS (lv_sub hl [0, 1, 2, 3, 4] rfl)
              · have hz := rfl (a := 0)
                have n_74 : ¬ ((gDw16 k1) < 100) := fun q => c_27 ((iLT (a := (gDw16 k1)) (b := 100) (by omega) (by omega)).mpr q)
                refine lv_iconst (v := 0) hx hb dX13_way_138 (by decide) ?_
                rw [hQ]
                exact W.iret (v := 0) hx hb hr (fun t ht hW9 => ⟨⟨0, M_21, rfl, ⟨hW, hF, ⟨0, rfl, (by omega)⟩⟩, ⟨by rw [ht]; exact hP, hD⟩⟩, hS.F ht⟩) hS.2.2 dX13_way_139
            · have hz := rfl (a := 0)
              have n_75 : ¬ (8 ≤ v3w16) := fun q => c_24 ((iLE (a := 8) (b := v3w16) (by omega) (by omega)).mpr q)
              refine lv_iconst (v := 0) hx hb dX13_way_39 (by decide) ?_
              refine lv_istore (lv' := [(4, .int 0), (3, .int (nI v3w16)), (0, .ref za), (1, .int (nI k1)), (2, .int k2)]) hx hb dX13_way_40 hl (by decide) rfl (fun ls hl => ?_)
              have hl : lv_has ls 6 [(4, .int 0), (3, .int (nI v3w16)), (0, .ref za), (1, .int (nI k1)), (2, .int k2)] := lv_sub hl [0, 1, 2, 3, 4] rfl
              have key_76 : ∀ (fu_78 : Nat) (v4w79 : Nat) (gFw79 : Nat → Int32) (gDw79 : Nat → Nat) (M_85 : Hp) (H_86 : Heap) (locs : List Loc) (ls : Array Slot), 8 - v4w79 < fu_78 → M_85 z9 = .inl (cy 14, 8, .inl (gFw79)) → v4w79 ≤ z2 → LK gFw79 gDw79 → BG (owW M z1 z6 z7) z2 k2 gDw79 → B3 (owW M z1 z6 z7) z2 gDw79 v3w16 → BJ (owW M z1 z6 z7) z2 gDw79 v3w16 v4w79 0 → WOM cy K L M_85 → fr K L [49, 50] M M_85 → va_P D vwCl ([(za, .inr (13, [.int z0, .ref z1, .int (nI z2), .int (nI z3), .int z4, .int z5, .ref z6, .ref z7, .ref z8, .ref z9, .int (nI z10), .ref z11, .ref z12, .ref z13, .ref z14, .ref z15, .int (nI z16), .ref z17, .int z18, .ref z19]))] ++ va_pl L M_85) H_86 → va_D A ([(za, .inr (13, [.int z0, .ref z1, .int (nI z2), .int (nI z3), .int z4, .int z5, .ref z6, .ref z7, .ref z8, .ref z9, .int (nI z10), .ref z11, .ref z12, .ref z13, .ref z14, .ref z15, .int (nI z16), .ref z17, .int z18, .ref z19]))] ++ va_pl L M_85) → va_S A s.heap H_86 locs → lv_has ls 6 [(4, .int (nI v4w79)), (3, .int (nI v3w16)), (0, .ref za), (1, .int (nI k1)), (2, .int k2)] → W p l e R s m ([.ref za, .int (nI k1), .int k2] : List Value).toArray below meth c H_86 locs 0 0 Q (F0 m 42 ls []) := by
                intro fu_78
                induction fu_78 with
                | zero => intro v4w79 gFw79 gDw79 M_85 H_86 locs ls h; exact absurd h (Nat.not_lt_zero _)
                | succ fu_78 ih_77 =>
                  intro v4w79 gFw79 gDw79 M_85 H_86 locs ls hfu hM_87 hx_80 hx_81 hx_82 hx_83 hx_84 hW hF hP hD hS hl
                  refine lv_iload hx hb dX13_way_42 (lv_at hl 0 rfl) ?_
                  refine lv_aload_n hx hb dX13_way_44 rfl (lv_at hl 2 rfl) ?_
                  refine va_get (D := D) (ci := 13) (v := .int (nI z2)) (C := RX13) (T := TX13) (N := 20) hx hb hg inG13 hown hK hP 0 rfl rfl 2 (by decide) (hg _ wd_713) (fun _ h9 => h9) rfl dX13_way_45 ?_
                  refine lv_icmp_ge (tgt := 121) hx hb dX13_way_48 (by decide) (fun c_88 => ?_) (fun c_88 => ?_)
                  · have hz := rfl (a := 0)
                    have n_89 : z2 ≤ v4w79 := (iLE (a := z2) (b := v4w79) (by omega) (by omega)).mp c_88
                    refine lv_iinc (v := (nI (v3w16 + 1))) (lv' := [(3, .int (nI (v3w16 + 1))), (4, .int (nI v4w79)), (0, .ref za), (1, .int (nI k1)), (2, .int k2)]) hx hb dX13_way_121 hl (k := 1) rfl (nI_1 v3w16) (by decide) rfl (fun ls hl => ?_)
                    refine lv_goto (tgt := 33) hx hb dX13_way_124 (by decide) ?_
                    exact ih_14 (v3w16 + 1) gFw79 gDw79 M_85 H_86 _ _ (by omega) hM_87 (by omega) hx_81 hx_82 (B3.nxt hx_84 (by omega)) hW hF hP hD hS (lv_sub hl [0, 2, 3, 4] rfl)
                  · have hz := rfl (a := 0)
                    have n_90 : ¬ (z2 ≤ v4w79) := fun q => c_88 ((iLE (a := z2) (b := v4w79) (by omega) (by omega)).mpr q)
                    refine lv_iconst (v := 0) hx hb dX13_way_51 (by decide) ?_
                    refine lv_istore (lv' := [(5, .int 0), (4, .int (nI v4w79)), (3, .int (nI v3w16)), (0, .ref za), (1, .int (nI k1)), (2, .int k2)]) hx hb dX13_way_52 hl (by decide) rfl (fun ls hl => ?_)
                    have key_91 : ∀ (fu_93 : Nat) (v5w94 : Nat) (gFw94 : Nat → Int32) (gDw94 : Nat → Nat) (M_100 : Hp) (H_101 : Heap) (locs : List Loc) (ls : Array Slot), 8 - v5w94 < fu_93 → M_100 z9 = .inl (cy 14, 8, .inl (gFw94)) → v5w94 ≤ z2 → LK gFw94 gDw94 → BG (owW M z1 z6 z7) z2 k2 gDw94 → B3 (owW M z1 z6 z7) z2 gDw94 v3w16 → BJ (owW M z1 z6 z7) z2 gDw94 v3w16 v4w79 v5w94 → WOM cy K L M_100 → fr K L [49, 50] M M_100 → va_P D vwCl ([(za, .inr (13, [.int z0, .ref z1, .int (nI z2), .int (nI z3), .int z4, .int z5, .ref z6, .ref z7, .ref z8, .ref z9, .int (nI z10), .ref z11, .ref z12, .ref z13, .ref z14, .ref z15, .int (nI z16), .ref z17, .int z18, .ref z19]))] ++ va_pl L M_100) H_101 → va_D A ([(za, .inr (13, [.int z0, .ref z1, .int (nI z2), .int (nI z3), .int z4, .int z5, .ref z6, .ref z7, .ref z8, .ref z9, .int (nI z10), .ref z11, .ref z12, .ref z13, .ref z14, .ref z15, .int (nI z16), .ref z17, .int z18, .ref z19]))] ++ va_pl L M_100) → va_S A s.heap H_101 locs → lv_has ls 6 [(5, .int (nI v5w94)), (4, .int (nI v4w79)), (3, .int (nI v3w16)), (0, .ref za), (1, .int (nI k1)), (2, .int k2)] → W p l e R s m ([.ref za, .int (nI k1), .int k2] : List Value).toArray below meth c H_101 locs 0 0 Q (F0 m 54 ls []) := by
                      intro fu_93
                      induction fu_93 with
                      | zero => intro v5w94 gFw94 gDw94 M_100 H_101 locs ls h; exact absurd h (Nat.not_lt_zero _)
                      | succ fu_93 ih_92 =>
                        intro v5w94 gFw94 gDw94 M_100 H_101 locs ls hfu hM_102 hx_95 hx_96 hx_97 hx_98 hx_99 hW hF hP hD hS hl
                        refine lv_iload hx hb dX13_way_54 (lv_at hl 0 rfl) ?_
                        refine lv_aload_n hx hb dX13_way_56 rfl (lv_at hl 3 rfl) ?_
                        refine va_get (D := D) (ci := 13) (v := .int (nI z2)) (C := RX13) (T := TX13) (N := 20) hx hb hg inG13 hown hK hP 0 rfl rfl 2 (by decide) (hg _ wd_713) (fun _ h9 => h9) rfl dX13_way_57 ?_
                        refine lv_icmp_ge (tgt := 115) hx hb dX13_way_60 (by decide) (fun c_103 => ?_) (fun c_103 => ?_)
                        · have hz := rfl (a := 0)
                          have n_104 : z2 ≤ v5w94 := (iLE (a := z2) (b := v5w94) (by omega) (by omega)).mp c_103
                          refine lv_iinc (v := (nI (v4w79 + 1))) (lv' := [(4, .int (nI (v4w79 + 1))), (5, .int (nI v5w94)), (3, .int (nI v3w16)), (0, .ref za), (1, .int (nI k1)), (2, .int k2)]) hx hb dX13_way_115 hl (k := 1) rfl (nI_1 v4w79) (by decide) rfl (fun ls hl => ?_)
                          refine lv_goto (tgt := 42) hx hb dX13_way_118 (by decide) ?_
                          exact ih_77 (v4w79 + 1) gFw94 gDw94 M_100 H_101 _ _ (by omega) hM_102 (by omega) hx_96 hx_97 hx_98 (BJ.row hx_99 (by omega)) hW hF hP hD hS (lv_sub hl [0, 2, 3, 4, 5] rfl)
                        · have hz := rfl (a := 0)
                          have n_105 : ¬ (z2 ≤ v5w94) := fun q => c_103 ((iLE (a := z2) (b := v5w94) (by omega) (by omega)).mpr q)
                          refine lv_aload_n hx hb dX13_way_63 rfl (lv_at hl 3 rfl) ?_
                          refine va_get (D := D) (ci := 13) (v := .ref z9) (C := RX13) (T := TX13) (N := 20) hx hb hg inG13 hown hK hP 0 rfl rfl 9 (by decide) (hg _ wd_886) (fun _ h9 => h9) rfl dX13_way_64 ?_
                          refine lv_iload hx hb dX13_way_67 (lv_at hl 0 rfl) ?_
                          refine pg_iald hx hb hK hP i9.1 0 hM_102 rfl (inbN v5w94 8 (by omega) (by omega)) dX13_way_69 ?_
                          refine lv_topi (fun f_106 ef_106 => ?_)
                          have hLk := hx_96 v5w94 (by omega)
                          have hd100 : gDw94 v5w94 ≤ 100 := hLk.2
                          obtain rfl : f_106 = nI (gDw94 v5w94) := by rw [ef_106, nI_cl (by omega)]; exact hLk.1
                          refine lv_iconst (v := 1) hx hb dX13_way_70 (by decide) ?_
                          refine lv_iadd hx hb dX13_way_71 ?_
                          refine lv_topi (fun f_107 ef_107 => ?_)
                          obtain rfl : f_107 = (nI ((gDw94 v5w94) + 1)) := ef_107.trans (nI_add (gDw94 v5w94) 1)
                          refine lv_aload_n hx hb dX13_way_72 rfl (lv_at hl 3 rfl) ?_
                          refine va_get (D := D) (ci := 13) (v := .ref z9) (C := RX13) (T := TX13) (N := 20) hx hb hg inG13 hown hK hP 0 rfl rfl 9 (by decide) (hg _ wd_886) (fun _ h9 => h9) rfl dX13_way_73 ?_
                          refine lv_iload hx hb dX13_way_76 (lv_at hl 1 rfl) ?_
                          refine pg_iald hx hb hK hP i9.1 0 hM_102 rfl (inbN v4w79 8 (by omega) (by omega)) dX13_way_78 ?_
                          refine lv_topi (fun f_108 ef_108 => ?_)
                          have hLk := hx_96 v4w79 (by omega)
                          have hd100 : gDw94 v4w79 ≤ 100 := hLk.2
                          obtain rfl : f_108 = nI (gDw94 v4w79) := by rw [ef_108, nI_cl (by omega)]; exact hLk.1
                          refine lv_icmp_ge (tgt := 109) hx hb dX13_way_79 (by decide) (fun c_109 => ?_) (fun c_109 => ?_)
                          · have hz := rfl (a := 0)
                            have n_110 : (gDw94 v4w79) ≤ ((gDw94 v5w94) + 1) := (iLE (a := (gDw94 v4w79)) (b := ((gDw94 v5w94) + 1)) (by omega) (by omega)).mp c_109
                            refine lv_iinc (v := (nI (v5w94 + 1))) (lv' := [(5, .int (nI (v5w94 + 1))), (4, .int (nI v4w79)), (3, .int (nI v3w16)), (0, .ref za), (1, .int (nI k1)), (2, .int k2)]) hx hb dX13_way_109 hl (k := 0) rfl (nI_1 v5w94) (by decide) rfl (fun ls hl => ?_)
                            refine lv_goto (tgt := 54) hx hb dX13_way_112 (by decide) ?_
                            exact ih_92 (v5w94 + 1) gFw94 gDw94 M_100 H_101 _ _ (by omega) hM_102 (by omega) hx_96 hx_97 hx_98 (BJ.no hx_99 (fun _ => by omega)) hW hF hP hD hS (lv_sub hl [0, 1, 2, 3, 4, 5] rfl)
                          · have hz := rfl (a := 0)
                            have n_111 : ¬ ((gDw94 v4w79) ≤ ((gDw94 v5w94) + 1)) := fun q => c_109 ((iLE (a := (gDw94 v4w79)) (b := ((gDw94 v5w94) + 1)) (by omega) (by omega)).mpr q)
                            refine lv_aload_n hx hb dX13_way_82 rfl (lv_at hl 3 rfl) ?_
                            refine lv_iload hx hb dX13_way_83 (lv_at hl 1 rfl) ?_
                            refine lv_iload hx hb dX13_way_85 (lv_at hl 0 rfl) ?_
                            have hPc : va_P D vwCl ([(za, .inr (13, [.int z0, .ref z1, .int (nI z2), .int (nI z3), .int z4, .int z5, .ref z6, .ref z7, .ref z8, .ref z9, .int (nI z10), .ref z11, .ref z12, .ref z13, .ref z14, .ref z15, .int (nI z16), .ref z17, .int z18, .ref z19]))] ++ va_pl L M_100) H_101 := hP
                            have hDc : va_D A ([(za, .inr (13, [.int z0, .ref z1, .int (nI z2), .int (nI z3), .int z4, .int z5, .ref z6, .ref z7, .ref z8, .ref z9, .int (nI z10), .ref z11, .ref z12, .ref z13, .ref z14, .ref z15, .int (nI z16), .ref z17, .int z18, .ref z19]))] ++ va_pl L M_100) := hD
                            have hFc : ∀ q, va_A ([(za, .inr (13, [.int z0, .ref z1, .int (nI z2), .int (nI z3), .int z4, .int z5, .ref z6, .ref z7, .ref z8, .ref z9, .int (nI z10), .ref z11, .ref z12, .ref z13, .ref z14, .ref z15, .int (nI z16), .ref z17, .int z18, .ref z19]))] ++ va_pl L M_100) H_101.size q → A q := pg_free hDc hS hA
                            refine va_calli (va_runV (As := [.int (nI v4w79), .int (nI v5w94)]) (rest := []) ⟨hx, hb, hml, hown, hg⟩ (r_ownsS l D cy K L M_100 H_101.size za z0 z1 z2 z3 z4 z5 z6 z7 z8 z9 z10 z11 z12 z13 z14 z15 z16 z17 z18 z19 (nI v4w79) v5w94  hW i1 b2 b3 i6 i7 i8 i9 b10 i11 i12 i13 i14 i15 b16 i17 i19 (by omega)) (cwV 2 hg (gV wd_887 wd_888 wd_889 wd_717 wd_890) rfl rfl rfl (by decide +kernel) ⟨(Nat.le_trans (Nat.le_of_ble_eq_true rfl) hRf), (Nat.le_trans (Nat.le_of_ble_eq_true rfl) hRl)⟩) ⟨PG.blind, va_recv hK hP (ci := 13) (q0 := 0) rfl rfl, fun U hU hW => ⟨rfl, PG.at hPc hK hDc hN hU hW⟩⟩ rfl rfl hl.1 rfl (lv_room (Nat.le_of_ble_eq_true rfl)) dX13_way_87 ⟨(Nat.le_trans (Nat.le_of_ble_eq_true rfl) hRc), (Nat.le_trans (Nat.le_of_ble_eq_true rfl) hRs)⟩) hS (fun q _ h => hFc q h) hFc (fun r_113 M_114 t H_112 locs ht hvm hw hB hz1 hk1 hS => ?_)
                            have hp_115 := hw
                            obtain ⟨hP1, hD1⟩ := hB
                            rw [ht] at hP1
                            have hP : va_P D vwCl ([(za, .inr (13, [.int z0, .ref z1, .int (nI z2), .int (nI z3), .int z4, .int z5, .ref z6, .ref z7, .ref z8, .ref z9, .int (nI z10), .ref z11, .ref z12, .ref z13, .ref z14, .ref z15, .int (nI z16), .ref z17, .int z18, .ref z19]))] ++ va_pl L M_100) H_112 := hP1
                            have hD : va_D A ([(za, .inr (13, [.int z0, .ref z1, .int (nI z2), .int (nI z3), .int z4, .int z5, .ref z6, .ref z7, .ref z8, .ref z9, .int (nI z10), .ref z11, .ref z12, .ref z13, .ref z14, .ref z15, .int (nI z16), .ref z17, .int z18, .ref z19]))] ++ va_pl L M_100) := hD1.mono hFc
                            rcases hp_115 with ⟨rfl, c_116⟩ | ⟨rfl, c_117⟩
                            · have hz := rfl (a := 0)
                              have hwo0 : (owW M z1 z6 z7) v4w79 v5w94 := (owS.mv hW0 i1 i6 i7 hF (by decide) (by omega)).mp c_116
                              refine lv_if_eq (tgt := 109) hx hb dX13_way_90 (by decide) (fun c_118 => absurd c_118 (by decide)) (fun _ => ?_)
                              refine lv_aload_n hx hb dX13_way_93 rfl (lv_at hl 3 rfl) ?_
                              refine va_get (D := D) (ci := 13) (v := .ref z9) (C := RX13) (T := TX13) (N := 20) hx hb hg inG13 hown hK hP 0 rfl rfl 9 (by decide) (hg _ wd_886) (fun _ h9 => h9) rfl dX13_way_94 ?_
                              refine lv_iload hx hb dX13_way_97 (lv_at hl 1 rfl) ?_
                              refine lv_aload_n hx hb dX13_way_99 rfl (lv_at hl 3 rfl) ?_
                              refine va_get (D := D) (ci := 13) (v := .ref z9) (C := RX13) (T := TX13) (N := 20) hx hb hg inG13 hown hK hP 0 rfl rfl 9 (by decide) (hg _ wd_886) (fun _ h9 => h9) rfl dX13_way_100 ?_
                              refine lv_iload hx hb dX13_way_103 (lv_at hl 0 rfl) ?_
                              refine pg_iald hx hb hK hP i9.1 0 hM_102 rfl (inbN v5w94 8 (by omega) (by omega)) dX13_way_105 ?_
                              refine lv_topi (fun f_119 ef_119 => ?_)
                              have hLk := hx_96 v5w94 (by omega)
                              have hd100 : gDw94 v5w94 ≤ 100 := hLk.2
                              obtain rfl : f_119 = nI (gDw94 v5w94) := by rw [ef_119, nI_cl (by omega)]; exact hLk.1
                              refine lv_iconst (v := 1) hx hb dX13_way_106 (by decide) ?_
                              refine lv_iadd hx hb dX13_way_107 ?_
                              refine lv_topi (fun f_120 ef_120 => ?_)
                              obtain rfl : f_120 = (nI ((gDw94 v5w94) + 1)) := ef_120.trans (nI_add (gDw94 v5w94) 1)
                              refine pg_iast hx hb hK hP hD hS i9.1 0 hM_102 rfl (inbN v4w79 8 (by omega) (by omega)) dX13_way_108 (fun H_121 locs hP hD hS => ?_)
                              obtain ⟨M_122, eM_122⟩ : ∃ M1 : Hp, M1 = va_up M_100 z9 (.inl (cy 14, 8, .inl (upd gFw94 ((nI v4w79) : Int32).toNatClampNeg (nI ((gDw94 v5w94) + 1))))) := ⟨_, rfl⟩
                              have hP : va_P D vwCl ([(za, .inr (13, [.int z0, .ref z1, .int (nI z2), .int (nI z3), .int z4, .int z5, .ref z6, .ref z7, .ref z8, .ref z9, .int (nI z10), .ref z11, .ref z12, .ref z13, .ref z14, .ref z15, .int (nI z16), .ref z17, .int z18, .ref z19]))] ++ va_pl L M_122) H_121 := by rw [eM_122]; exact hP
                              have hD : va_D A ([(za, .inr (13, [.int z0, .ref z1, .int (nI z2), .int (nI z3), .int z4, .int z5, .ref z6, .ref z7, .ref z8, .ref z9, .int (nI z10), .ref z11, .ref z12, .ref z13, .ref z14, .ref z15, .int (nI z16), .ref z17, .int z18, .ref z19]))] ++ va_pl L M_122) := by rw [eM_122]; exact hD
                              have hW : WOM cy K L M_122 := by rw [eM_122]; exact hW.up_50 i9 ⟨_, rfl⟩
                              have hF : fr K L [49, 50] M M_122 := by rw [eM_122]; exact hF.up i9 (by decide)
                              have hM_123 : M_122 z9 = .inl (cy 14, 8, .inl (upd gFw94 ((nI v4w79) : Int32).toNatClampNeg (nI ((gDw94 v5w94) + 1)))) := by rw [eM_122]; exact va_up_self _ _ _
                              obtain ⟨f_124, ef_124⟩ : ∃ f : Nat → Int32, f = upd gFw94 ((nI v4w79) : Int32).toNatClampNeg (nI ((gDw94 v5w94) + 1)) := ⟨_, rfl⟩
                              rw [← ef_124] at hM_123
                              have hwo : (owW M z1 z6 z7) v4w79 v5w94 := hwo0
                              have hLK9 : LK f_124 (va_up gDw94 v4w79 (gDw94 v5w94 + 1)) := by rw [ef_124]; exact LK.up hx_96 (nI_cl (by omega)) (by omega)
                              obtain ⟨hBG9, hB39, hBJ9⟩ := BFr b2 hx_97 hx_98 hx_99 (by omega) (by omega) hwo (by omega)
                              refine lv_iinc (v := (nI (v5w94 + 1))) (lv' := [(5, .int (nI (v5w94 + 1))), (4, .int (nI v4w79)), (3, .int (nI v3w16)), (0, .ref za), (1, .int (nI k1)), (2, .int k2)]) hx hb dX13_way_109 hl (k := 0) rfl (nI_1 v5w94) (by decide) rfl (fun ls hl => ?_)
                              refine lv_goto (tgt := 54) hx hb dX13_way_112 (by decide) ?_
                              exact ih_92 (v5w94 + 1) f_124 (va_up gDw94 v4w79 (gDw94 v5w94 + 1)) M_122 H_121 _ _ (by omega) hM_123 (by omega) hLK9 hBG9 hB39 hBJ9 hW hF hP hD hS (lv_sub hl [0, 1, 2, 3, 4, 5] rfl)
                            · have hz := rfl (a := 0)
                              have hwn0 : ¬ (owW M z1 z6 z7) v4w79 v5w94 := fun q => c_117 ((owS.mv hW0 i1 i6 i7 hF (by decide) (by omega)).mpr q)
                              refine lv_if_eq (tgt := 109) hx hb dX13_way_90 (by decide) (fun _ => ?_) (fun c_125 => absurd c_125 (by decide))
                              refine lv_iinc (v := (nI (v5w94 + 1))) (lv' := [(5, .int (nI (v5w94 + 1))), (4, .int (nI v4w79)), (3, .int (nI v3w16)), (0, .ref za), (1, .int (nI k1)), (2, .int k2)]) hx hb dX13_way_109 hl (k := 0) rfl (nI_1 v5w94) (by decide) rfl (fun ls hl => ?_)
                              refine lv_goto (tgt := 54) hx hb dX13_way_112 (by decide) ?_
                              exact ih_92 (v5w94 + 1) gFw94 gDw94 M_100 H_112 _ _ (by omega) hM_102 (by omega) hx_96 hx_97 hx_98 (BJ.no hx_99 (fun q => absurd q hwn0)) hW hF hP hD hS (lv_sub hl [0, 1, 2, 3, 4, 5] rfl)
                    exact key_91 (8 - 0 + 1) 0 gFw79 gDw79 M_85 H_86 _ _ (by omega) hM_87 (by omega) hx_81 hx_82 hx_83 hx_84 hW hF hP hD hS (lv_sub hl [0, 1, 2, 3, 4, 5] rfl)
              exact key_76 (8 - 0 + 1) 0 gFw16 gDw16 M_21 H_22 _ _ (by omega) hM_23 (by omega) hx_18 hx_19 hx_20 (BJ.fst _ _ _ _) hW hF hP hD hS (lv_sub hl [0, 1, 2, 3, 4] rfl)
        exact key_13 (8 - 0 + 1) 0 gFw5 (D0 k2) M_8 H_9 _ _ (by omega) hM_10 (by omega) hLK0 (BG.fst _ _ _) (B3.fst _ _ _) hW hF hP hD hS (lv_sub hl [0, 1, 2, 3] rfl)
      · have hz := rfl (a := 0)
        have n_126 : ¬ (8 ≤ v3w5) := fun q => c_11 ((iLE (a := 8) (b := v3w5) (by omega) (by omega)).mpr q)
        refine lv_aload_n hx hb dX13_way_8 rfl (lv_at hl 1 rfl) ?_
        refine va_get (D := D) (ci := 13) (v := .ref z9) (C := RX13) (T := TX13) (N := 20) hx hb hg inG13 hown hK hP 0 rfl rfl 9 (by decide) (hg _ wd_886) (fun _ h9 => h9) rfl dX13_way_9 ?_
        refine lv_iload_n hx hb dX13_way_12 rfl (lv_at hl 0 rfl) ?_
        refine lv_iload_n hx hb dX13_way_13 rfl (lv_at hl 0 rfl) ?_
        refine lv_iload_n hx hb dX13_way_14 rfl (lv_at hl 3 rfl) ?_
        refine lv_icmp_ne (tgt := 22) hx hb dX13_way_15 (by decide) (fun c_127 => ?_) (fun c_127 => ?_)
        · have hz := rfl (a := 0)
          refine lv_bipush (v := 100) hx hb dX13_way_22 (by decide) ?_
          refine pg_iast hx hb hK hP hD hS i9.1 0 hM_10 rfl (inbN v3w5 8 (by omega) (by omega)) dX13_way_24 (fun H_128 locs hP hD hS => ?_)
          obtain ⟨M_129, eM_129⟩ : ∃ M1 : Hp, M1 = va_up M_8 z9 (.inl (cy 14, 8, .inl (upd gFw5 ((nI v3w5) : Int32).toNatClampNeg 100))) := ⟨_, rfl⟩
          have hP : va_P D vwCl ([(za, .inr (13, [.int z0, .ref z1, .int (nI z2), .int (nI z3), .int z4, .int z5, .ref z6, .ref z7, .ref z8, .ref z9, .int (nI z10), .ref z11, .ref z12, .ref z13, .ref z14, .ref z15, .int (nI z16), .ref z17, .int z18, .ref z19]))] ++ va_pl L M_129) H_128 := by rw [eM_129]; exact hP
          have hD : va_D A ([(za, .inr (13, [.int z0, .ref z1, .int (nI z2), .int (nI z3), .int z4, .int z5, .ref z6, .ref z7, .ref z8, .ref z9, .int (nI z10), .ref z11, .ref z12, .ref z13, .ref z14, .ref z15, .int (nI z16), .ref z17, .int z18, .ref z19]))] ++ va_pl L M_129) := by rw [eM_129]; exact hD
          have hW : WOM cy K L M_129 := by rw [eM_129]; exact hW.up_50 i9 ⟨_, rfl⟩
          have hF : fr K L [49, 50] M M_129 := by rw [eM_129]; exact hF.up i9 (by decide)
          have hM_130 : M_129 z9 = .inl (cy 14, 8, .inl (upd gFw5 ((nI v3w5) : Int32).toNatClampNeg 100)) := by rw [eM_129]; exact va_up_self _ _ _
          obtain ⟨f_131, ef_131⟩ : ∃ f : Nat → Int32, f = upd gFw5 ((nI v3w5) : Int32).toNatClampNeg 100 := ⟨_, rfl⟩
          rw [← ef_131] at hM_130
          refine lv_iinc (v := (nI (v3w5 + 1))) (lv' := [(3, .int (nI (v3w5 + 1))), (0, .ref za), (1, .int (nI k1)), (2, .int k2)]) hx hb dX13_way_25 hl (k := 0) rfl (nI_1 v3w5) (by decide) rfl (fun ls hl => ?_)
          refine lv_goto (tgt := 2) hx hb dX13_way_28 (by decide) ?_
          exact ih_3 (v3w5 + 1) f_131 M_129 H_128 _ _ (by omega) hM_130 (by omega) (by rw [ef_131]; exact filD hx_7 (nI_cl (by omega)) (D0n c_127)) hW hF hP hD hS (lv_sub hl [0, 1, 2, 3] rfl)
        · have hz := rfl (a := 0)
          refine lv_iconst (v := 0) hx hb dX13_way_18 (by decide) ?_
          refine lv_goto (tgt := 24) hx hb dX13_way_19 (by decide) ?_
          refine pg_iast hx hb hK hP hD hS i9.1 0 hM_10 rfl (inbN v3w5 8 (by omega) (by omega)) dX13_way_24 (fun H_132 locs hP hD hS => ?_)
          obtain ⟨M_133, eM_133⟩ : ∃ M1 : Hp, M1 = va_up M_8 z9 (.inl (cy 14, 8, .inl (upd gFw5 ((nI v3w5) : Int32).toNatClampNeg 0))) := ⟨_, rfl⟩
          have hP : va_P D vwCl ([(za, .inr (13, [.int z0, .ref z1, .int (nI z2), .int (nI z3), .int z4, .int z5, .ref z6, .ref z7, .ref z8, .ref z9, .int (nI z10), .ref z11, .ref z12, .ref z13, .ref z14, .ref z15, .int (nI z16), .ref z17, .int z18, .ref z19]))] ++ va_pl L M_133) H_132 := by rw [eM_133]; exact hP
          have hD : va_D A ([(za, .inr (13, [.int z0, .ref z1, .int (nI z2), .int (nI z3), .int z4, .int z5, .ref z6, .ref z7, .ref z8, .ref z9, .int (nI z10), .ref z11, .ref z12, .ref z13, .ref z14, .ref z15, .int (nI z16), .ref z17, .int z18, .ref z19]))] ++ va_pl L M_133) := by rw [eM_133]; exact hD
          have hW : WOM cy K L M_133 := by rw [eM_133]; exact hW.up_50 i9 ⟨_, rfl⟩
          have hF : fr K L [49, 50] M M_133 := by rw [eM_133]; exact hF.up i9 (by decide)
          have hM_134 : M_133 z9 = .inl (cy 14, 8, .inl (upd gFw5 ((nI v3w5) : Int32).toNatClampNeg 0)) := by rw [eM_133]; exact va_up_self _ _ _
          obtain ⟨f_135, ef_135⟩ : ∃ f : Nat → Int32, f = upd gFw5 ((nI v3w5) : Int32).toNatClampNeg 0 := ⟨_, rfl⟩
          rw [← ef_135] at hM_134
          refine lv_iinc (v := (nI (v3w5 + 1))) (lv' := [(3, .int (nI (v3w5 + 1))), (0, .ref za), (1, .int (nI k1)), (2, .int k2)]) hx hb dX13_way_25 hl (k := 0) rfl (nI_1 v3w5) (by decide) rfl (fun ls hl => ?_)
          refine lv_goto (tgt := 2) hx hb dX13_way_28 (by decide) ?_
          exact ih_3 (v3w5 + 1) f_135 M_133 H_132 _ _ (by omega) hM_134 (by omega) (by rw [ef_135]; exact filD hx_7 (nI_cl (by omega)) (D0y c_127)) hW hF hP hD hS (lv_sub hl [0, 1, 2, 3] rfl)
  exact key_2 (8 - 0 + 1) 0 f1 M s.heap _ _ (by omega) hM1 (by omega) (fun k h => absurd h (Nat.not_lt_zero _)) hW hF hP hD hS (lv_sub hl [0, 1, 2, 3] rfl)
set_option maxHeartbeats 4000000 in
set_option maxRecDepth 100000 in
theorem g_X13_join (l : Launch) (D : va_G) (cy : Nat → ClassId) (K : Kp) (L : List Nat) (M : Hp) (sz : Nat) (za : Nat) (z0 : Int32) (z1 : Nat) (z2 : Nat) (z3 : Nat) (z4 : Int32) (z5 : Int32) (z6 : Nat) (z7 : Nat) (z8 : Nat) (z9 : Nat) (z10 : Nat) (z11 : Nat) (z12 : Nat) (z13 : Nat) (z14 : Nat) (z15 : Nat) (z16 : Nat) (z17 : Nat) (z18 : Int32) (z19 : Nat) (k1 : Int32) (k2 : Int32) (k3 : Int32) (k4 : Int32) (k5 : Int32) (hW : WOM cy K L M) (i1 : isk K L z1 23 8) (b2 : z2 ≤ 8) (b3 : z3 ≤ 40) (i6 : isk K L z6 47 40) (i7 : isk K L z7 48 40) (i8 : isk K L z8 49 8) (i9 : isk K L z9 50 8) (b10 : z10 ≤ 8) (i11 : isk K L z11 32 24) (i12 : isk K L z12 14 24) (i13 : isk K L z13 15 24) (i14 : isk K L z14 15 24) (i15 : isk K L z15 15 24) (b16 : z16 ≤ 24) (i17 : isk K L z17 14 24) (i19 : isk K L z19 15 25) (hGI : GI K L z1 z2 M) : Met l yX13_join (wsM yX13_join cX13_join 9 (some .int)) ({ frames := 2, cells := 0, slots := 0, locals := 50 }) (va_Pc [.ref za, .int k1, .int k2, .int k3, .int k4, .int k5] (PG D cy [(za, .inr (13, [.int z0, .ref z1, .int (nI z2), .int (nI z3), .int z4, .int z5, .ref z6, .ref z7, .ref z8, .ref z9, .int (nI z10), .ref z11, .ref z12, .ref z13, .ref z14, .ref z15, .int (nI z16), .ref z17, .int z18, .ref z19]))] L M sz)) (va_Qi (fun (r : Int32) (M9 : Hp) => WOM cy K L M9 ∧ fr K L [12, 14, 16, 30, 31, 33, 34, 41, 42, 49, 50, 75, 76] M M9 ∧ fG K L [10] M M9 ∧ (GI K L z1 z2 M9) ∧ (True)) (fun M9 t => ∃ (w4 : Int32) (w5 : Int32) (w10 : Nat), w10 ≤ 8 ∧ PQ D [(za, .inr (13, [.int 0, .ref z1, .int (nI z2), .int (nI z3), .int w4, .int w5, .ref z6, .ref z7, .ref z8, .ref z9, .int (nI w10), .ref z11, .ref z12, .ref z13, .ref z14, .ref z15, .int (nI z16), .ref z17, .int z18, .ref z19]))] L M9 (va_A ([(za, .inr (13, [.int z0, .ref z1, .int (nI z2), .int (nI z3), .int z4, .int z5, .ref z6, .ref z7, .ref z8, .ref z9, .int (nI z10), .ref z11, .ref z12, .ref z13, .ref z14, .ref z15, .int (nI z16), .ref z17, .int z18, .ref z19]))] ++ va_pl L M) sz) t) (va_A ([(za, .inr (13, [.int z0, .ref z1, .int (nI z2), .int (nI z3), .int z4, .int z5, .ref z6, .ref z7, .ref z8, .ref z9, .int (nI z10), .ref z11, .ref z12, .ref z13, .ref z14, .ref z15, .int (nI z16), .ref z17, .int z18, .ref z19]))] ++ va_pl L M) sz)) 0 0 (va_A ([(za, .inr (13, [.int z0, .ref z1, .int (nI z2), .int (nI z3), .int z4, .int z5, .ref z6, .ref z7, .ref z8, .ref z9, .int (nI z10), .ref z11, .ref z12, .ref z13, .ref z14, .ref z15, .int (nI z16), .ref z17, .int z18, .ref z19]))] ++ va_pl L M) sz) := by
  refine Met.ofW (cc := cX13_join) (maxL := 9) (ret := (some .int)) (by decide) rfl ?_
  intro p e s m args below meth c s₁ B hml hv
  obtain ⟨rfl, hsz, hP, hK, hD0, hN⟩ := hv
  have hx := B.exec
  have hb := B.bytes
  have hr := B.returns
  have hts := atoms_spec (ws := (wsM yX13_join cX13_join 9 (some .int))) B.pre
  have hg : ∀ w ∈ lw_good, w.before _ s = true := fun w h => hts w (List.mem_cons_of_mem _ h)
  have hown : s.vm.findClass RX13 = some m.cls := findClass_of_methodNamed B.named
  have hlocks := B.notSynchronized
  subst hsz
  have hD := hD0.self (sz := s.heap.size)
  generalize hAe : va_A ([(za, .inr (13, [.int z0, .ref z1, .int (nI z2), .int (nI z3), .int z4, .int z5, .ref z6, .ref z7, .ref z8, .ref z9, .int (nI z10), .ref z11, .ref z12, .ref z13, .ref z14, .ref z15, .int (nI z16), .ref z17, .int z18, .ref z19]))] ++ va_pl L M) s.heap.size = A at hD ⊢
  have hA : ∀ q : Nat, s.heap.size ≤ q → A q := fun q h => by rw [← hAe]; exact Or.inr h
  have hS : va_S A s.heap s.heap [] := va_S.rf
  have hl := lv_entry ([.ref za, .int k1, .int k2, .int k3, .int k4, .int k5]) (n := 9) (Nat.le_of_ble_eq_true rfl)
  rw [lg_entry_eq]
  generalize (lg_sl ([.ref za, .int k1, .int k2, .int k3, .int k4, .int k5]) ++ List.replicate (9 - (lg_sl ([.ref za, .int k1, .int k2, .int k3, .int k4, .int k5])).length) Slot.unset).toArray = ls at hl ⊢
  refine W.nameQ (fun Q hQ => ?_)
  refine W.nameR (fun R hR => ?_)
  have hRf : 2 ≤ R.frames := by rw [hR]; exact Nat.le_of_ble_eq_true rfl
  have hRl : 50 ≤ R.locals := by rw [hR]; exact Nat.le_of_ble_eq_true rfl
  have hRc : 0 ≤ R.cells := by rw [hR]; exact Nat.le_of_ble_eq_true rfl
  have hRs : 0 ≤ R.slots := by rw [hR]; exact Nat.le_of_ble_eq_true rfl
  have hF : fr K L [12, 14, 16, 30, 31, 33, 34, 41, 42, 49, 50, 75, 76] M M := fr.rf
  have hG : fG K L [10] M M := fG.rf
  have hl : lv_has ls 9 [(0, .ref za), (1, .int k1), (2, .int k2), (3, .int k3), (4, .int k4), (5, .int k5)] := hl
  have hW0 := hW
  refine lv_aload_n hx hb dX13_join_0 rfl (lv_at hl 0 rfl) ?_
  refine lv_iconst (v := 0) hx hb dX13_join_1 (by decide) ?_
  refine va_put (D := D) (ci := 13) (v := .int 0) (ty := .int) (C := RX13) (T := TX13) (N := 20) hx hb hg inG13 tyX13 tyX13_ok nmX13 hown hK hP hD hS 0 rfl rfl 0 (by decide) (hg _ wd_720) (fun _ h9 => h9) rfl (by decide +kernel) rfl rfl (Nat.le_of_ble_eq_true rfl) dX13_join_2 (fun H_1 locs hP hD hS => ?_)
  have hP : va_P D vwCl ([(za, .inr (13, [.int 0, .ref z1, .int (nI z2), .int (nI z3), .int z4, .int z5, .ref z6, .ref z7, .ref z8, .ref z9, .int (nI z10), .ref z11, .ref z12, .ref z13, .ref z14, .ref z15, .int (nI z16), .ref z17, .int z18, .ref z19]))] ++ va_pl L M) H_1 := hP
  have hD : va_D A ([(za, .inr (13, [.int 0, .ref z1, .int (nI z2), .int (nI z3), .int z4, .int z5, .ref z6, .ref z7, .ref z8, .ref z9, .int (nI z10), .ref z11, .ref z12, .ref z13, .ref z14, .ref z15, .int (nI z16), .ref z17, .int z18, .ref z19]))] ++ va_pl L M) := hD
  refine lv_aload_n hx hb dX13_join_5 rfl (lv_at hl 0 rfl) ?_
  refine lv_iconst (v := 0) hx hb dX13_join_6 (by decide) ?_
  refine va_put (D := D) (ci := 13) (v := .int 0) (ty := .int) (C := RX13) (T := TX13) (N := 20) hx hb hg inG13 tyX13 tyX13_ok nmX13 hown hK hP hD hS 0 rfl rfl 10 (by decide) (hg _ wd_723) (fun _ h9 => h9) rfl (by decide +kernel) rfl rfl (Nat.le_of_ble_eq_true rfl) dX13_join_7 (fun H_2 locs hP hD hS => ?_)
  have hP : va_P D vwCl ([(za, .inr (13, [.int 0, .ref z1, .int (nI z2), .int (nI z3), .int z4, .int z5, .ref z6, .ref z7, .ref z8, .ref z9, .int 0, .ref z11, .ref z12, .ref z13, .ref z14, .ref z15, .int (nI z16), .ref z17, .int z18, .ref z19]))] ++ va_pl L M) H_2 := hP
  have hD : va_D A ([(za, .inr (13, [.int 0, .ref z1, .int (nI z2), .int (nI z3), .int z4, .int z5, .ref z6, .ref z7, .ref z8, .ref z9, .int 0, .ref z11, .ref z12, .ref z13, .ref z14, .ref z15, .int (nI z16), .ref z17, .int z18, .ref z19]))] ++ va_pl L M) := hD
  refine lv_aload_n hx hb dX13_join_10 rfl (lv_at hl 0 rfl) ?_
  refine lv_iload_n hx hb dX13_join_11 rfl (lv_at hl 1 rfl) ?_
  refine lv_iload_n hx hb dX13_join_12 rfl (lv_at hl 2 rfl) ?_
  have hPc : va_P D vwCl ([(za, .inr (13, [.int 0, .ref z1, .int (nI z2), .int (nI z3), .int z4, .int z5, .ref z6, .ref z7, .ref z8, .ref z9, .int 0, .ref z11, .ref z12, .ref z13, .ref z14, .ref z15, .int (nI z16), .ref z17, .int z18, .ref z19]))] ++ va_pl L M) H_2 := hP
  have hDc : va_D A ([(za, .inr (13, [.int 0, .ref z1, .int (nI z2), .int (nI z3), .int z4, .int z5, .ref z6, .ref z7, .ref z8, .ref z9, .int 0, .ref z11, .ref z12, .ref z13, .ref z14, .ref z15, .int (nI z16), .ref z17, .int z18, .ref z19]))] ++ va_pl L M) := hD
  have hFc : ∀ q, va_A ([(za, .inr (13, [.int 0, .ref z1, .int (nI z2), .int (nI z3), .int z4, .int z5, .ref z6, .ref z7, .ref z8, .ref z9, .int 0, .ref z11, .ref z12, .ref z13, .ref z14, .ref z15, .int (nI z16), .ref z17, .int z18, .ref z19]))] ++ va_pl L M) H_2.size q → A q := pg_free hDc hS hA
  refine va_calli (va_runV (As := [.int k1, .int k2]) (rest := []) ⟨hx, hb, hml, hown, hg⟩ (r_X13_isSeat l D cy K L M H_2.size za 0 z1 z2 z3 z4 z5 z6 z7 z8 z9 0 z11 z12 z13 z14 z15 z16 z17 z18 z19 k1 k2  hW i1 b2 b3 i6 i7 i8 i9 (by omega) i11 i12 i13 i14 i15 b16 i17 i19) (cwV 2 hg (gV wd_744 wd_745 wd_746 wd_717 wd_747) rfl rfl rfl (by decide +kernel) ⟨(Nat.le_trans (Nat.le_of_ble_eq_true rfl) hRf), (Nat.le_trans (Nat.le_of_ble_eq_true rfl) hRl)⟩) ⟨PG.blind, va_recv hK hP (ci := 13) (q0 := 0) rfl rfl, fun U hU hW => ⟨rfl, PG.at hPc hK hDc hN hU hW⟩⟩ rfl rfl hl.1 rfl (lv_room (Nat.le_of_ble_eq_true rfl)) dX13_join_13 ⟨(Nat.le_trans (Nat.le_of_ble_eq_true rfl) hRc), (Nat.le_trans (Nat.le_of_ble_eq_true rfl) hRs)⟩) hS (fun q _ h => hFc q h) hFc (fun r_4 M_5 t H_3 locs ht hvm hw hB hz1 hk1 hS => ?_)
  have hp_6 := hw
  obtain ⟨hP1, hD1⟩ := hB
  rw [ht] at hP1
  have hP : va_P D vwCl ([(za, .inr (13, [.int 0, .ref z1, .int (nI z2), .int (nI z3), .int z4, .int z5, .ref z6, .ref z7, .ref z8, .ref z9, .int (nI 0), .ref z11, .ref z12, .ref z13, .ref z14, .ref z15, .int (nI z16), .ref z17, .int z18, .ref z19]))] ++ va_pl L M) H_3 := hP1
  have hD : va_D A ([(za, .inr (13, [.int 0, .ref z1, .int (nI z2), .int (nI z3), .int z4, .int z5, .ref z6, .ref z7, .ref z8, .ref z9, .int (nI 0), .ref z11, .ref z12, .ref z13, .ref z14, .ref z15, .int (nI z16), .ref z17, .int z18, .ref z19]))] ++ va_pl L M) := hD1.mono hFc
  rcases hp_6 with ⟨rfl, c_7, c_8, c_9, c_10⟩ | rfl
  · have hz := rfl (a := 0)
    refine lv_if_eq (tgt := 31) hx hb dX13_join_16 (by decide) (fun c_11 => absurd c_11 (by decide)) (fun _ => ?_)
    refine lv_iload_n hx hb dX13_join_19 rfl (lv_at hl 3 rfl) ?_
    refine lv_if_lt (tgt := 31) hx hb dX13_join_20 (by decide) (fun c_12 => ?_) (fun c_12 => ?_)
    · have hz := rfl (a := 0)
      refine lv_aload_n hx hb dX13_join_31 rfl (lv_at hl 0 rfl) ?_
      refine lv_iconst (v := 1) hx hb dX13_join_32 (by decide) ?_
      have hPc := hP.sub (ws' := [(za, .inr (13, [.int 0, .ref z1, .int (nI z2), .int (nI z3), .int z4, .int z5, .ref z6, .ref z7, .ref z8, .ref z9, .int (nI 0), .ref z11, .ref z12, .ref z13, .ref z14, .ref z15, .int (nI z16), .ref z17, .int z18, .ref z19]))]) [0] rfl
      have hDc := hD.sub (ws' := [(za, .inr (13, [.int 0, .ref z1, .int (nI z2), .int (nI z3), .int z4, .int z5, .ref z6, .ref z7, .ref z8, .ref z9, .int (nI 0), .ref z11, .ref z12, .ref z13, .ref z14, .ref z15, .int (nI z16), .ref z17, .int z18, .ref z19]))]) [0] (by decide) rfl
      have hKc := hK.sub (tys' := []) [] rfl
      have hFc := va_free (wc := [(za, .inr (13, [.int 0, .ref z1, .int (nI z2), .int (nI z3), .int z4, .int z5, .ref z6, .ref z7, .ref z8, .ref z9, .int (nI 0), .ref z11, .ref z12, .ref z13, .ref z14, .ref z15, .int (nI z16), .ref z17, .int z18, .ref z19]))]) hD hS hA [0] rfl
      refine va_calli (va_runV (As := [.int 1]) (rest := []) ⟨hx, hb, hml, hown, hg⟩ (m_refused l D H_3.size za 0 z1 (nI z2) (nI z3) z4 z5 z6 z7 z8 z9 (nI 0) z11 z12 z13 z14 z15 (nI z16) z17 z18 z19 1) (cwV 1 hg (gV wd_725 wd_726 wd_727 wd_717 wd_728) rfl rfl rfl (by decide +kernel) ⟨(Nat.le_trans (Nat.le_of_ble_eq_true rfl) hRf), (Nat.le_trans (Nat.le_of_ble_eq_true rfl) hRl)⟩) ⟨Pr.blind, va_recv hK hP (ci := 13) (q0 := 0) rfl rfl, fun U hU hW => ⟨rfl, Pr.at hPc hKc hDc hN hU hW⟩⟩ rfl rfl hl.1 rfl (lv_room (Nat.le_of_ble_eq_true rfl)) dX13_join_33 ⟨(Nat.le_trans (Nat.le_of_ble_eq_true rfl) hRc), (Nat.le_trans (Nat.le_of_ble_eq_true rfl) hRs)⟩) hS (fun q _ h => hFc q h) hFc (fun r_14 M_15 t H_13 locs ht hvm hw hB hz1 hk1 hS => ?_)
      have hp_16 := hw
      obtain ⟨hP1, hK1, hD1⟩ := hB
      rw [ht] at hP1
      obtain ⟨hP, hD⟩ := va_joinQ (X := [(za, .inr (13, [.int 0, .ref z1, .int (nI z2), .int (nI z3), .int z4, .int z5, .ref z6, .ref z7, .ref z8, .ref z9, .int (nI 0), .ref z11, .ref z12, .ref z13, .ref z14, .ref z15, .int (nI z16), .ref z17, .int z18, .ref z19]))]) (cx := [(za, .inr (13, [.int 0, .ref z1, .int (nI z2), .int (nI z3), .int z4, .int z5, .ref z6, .ref z7, .ref z8, .ref z9, .int (nI 0), .ref z11, .ref z12, .ref z13, .ref z14, .ref z15, .int (nI z16), .ref z17, .int z18, .ref z19]))]) (wr := []) (w1 := [(za, .inr (13, [.int 0, .ref z1, .int (nI z2), .int (nI z3), .int 1, .int (-1), .ref z6, .ref z7, .ref z8, .ref z9, .int (nI 0), .ref z11, .ref z12, .ref z13, .ref z14, .ref z15, .int (nI z16), .ref z17, .int z18, .ref z19]))]) (pl := va_pl L M) hP hD [0] [] rfl rfl (by decide) (by decide) hk1 hFc hP1 hD1
      have hP : va_P D vwCl ([(za, .inr (13, [.int 0, .ref z1, .int (nI z2), .int (nI z3), .int 1, .int (-1), .ref z6, .ref z7, .ref z8, .ref z9, .int (nI 0), .ref z11, .ref z12, .ref z13, .ref z14, .ref z15, .int (nI z16), .ref z17, .int z18, .ref z19]))] ++ va_pl L M) H_13 := hP
      have hD : va_D A ([(za, .inr (13, [.int 0, .ref z1, .int (nI z2), .int (nI z3), .int 1, .int (-1), .ref z6, .ref z7, .ref z8, .ref z9, .int (nI 0), .ref z11, .ref z12, .ref z13, .ref z14, .ref z15, .int (nI z16), .ref z17, .int z18, .ref z19]))] ++ va_pl L M) := hD
      have hq := Eq.symm hp_16
      subst hq
      rw [hQ]
      exact W.iret (v := (-1)) hx hb hr (fun t ht hW9 => ⟨⟨(-1), M, rfl, ⟨hW, hF, hG, hGI, trivial⟩, ⟨1, (-1), 0, (by omega), by rw [ht]; exact hP, hD⟩⟩, hS.F ht⟩) hS.2.2 dX13_join_36
    · have hz := rfl (a := 0)
      refine lv_iload_n hx hb dX13_join_23 rfl (lv_at hl 3 rfl) ?_
      refine lv_aload_n hx hb dX13_join_24 rfl (lv_at hl 0 rfl) ?_
      refine va_get (D := D) (ci := 13) (v := .int (nI z3)) (C := RX13) (T := TX13) (N := 20) hx hb hg inG13 hown hK hP 0 rfl rfl 3 (by decide) (hg _ wd_831) (fun _ h9 => h9) rfl dX13_join_25 ?_
      refine lv_icmp_lt (tgt := 37) hx hb dX13_join_28 (by decide) (fun c_17 => ?_) (fun c_17 => ?_)
      · have hz := rfl (a := 0)
        have n_18 : ¬ 40 ≤ k3 := ltB (b := 40) (by decide) (by omega) c_17
        obtain ⟨j_19, hj_20, rfl⟩ := i32nat z2 (by omega) c_7 c_8
        refine lv_aload_n hx hb dX13_join_37 rfl (lv_at hl 0 rfl) ?_
        refine va_get (D := D) (ci := 13) (v := .ref z1) (C := RX13) (T := TX13) (N := 20) hx hb hg inG13 hown hK hP 0 rfl rfl 1 (by decide) (hg _ wd_739) (fun _ h9 => h9) rfl dX13_join_38 ?_
        refine lv_iload_n hx hb dX13_join_41 rfl (lv_at hl 1 rfl) ?_
        obtain ⟨f21, hM21, hf21⟩ := hW.open_23 i1
        have hi_22 : vp_in (nI j_19) 8 := (inbN j_19 8 (by omega) (by omega))
        refine pg_aldq hx hb hK hP i1.1 9 hM21 rfl hi_22 dX13_join_42 ?_
        obtain ⟨b23, eb_24, hb_25⟩ := hf21 _ (vp_lt hi_22)
        rw [eb_24]
        have hact : ACT z1 z2 b23 M := ⟨((nI j_19) : Int32).toNatClampNeg, vp_lt (inbN j_19 z2 (by omega) (by omega)), by rw [show RFc (M z1) = f21 from by rw [hM21]; rfl]; exact eb_24⟩
        have hAT := GI.at hGI hact
        have hV : VW K L M M b23 (fx M b23) (ax M b23) := VW.rf b23 hGI.2.2.2
        refine lv_astore (lv' := [(6, .ref b23), (0, .ref za), (1, .int (nI j_19)), (2, .int k2), (3, .int k3), (4, .int k4), (5, .int k5)]) hx hb dX13_join_43 hl (by decide) rfl (fun ls hl => ?_)
        refine lv_aload hx hb dX13_join_45 (lv_at hl 0 rfl) ?_
        refine lv_iload hx hb dX13_join_47 (lv_at hl 5 rfl) ?_
        obtain ⟨fs26, hM26, hn26, hl26⟩ := hW.open_12 hb_25
        have hPc : va_P D vwCl ([] ++ va_pl L M) H_3 := hP.part (cx := []) [] rfl
        have hDc : va_D A ([] ++ va_pl L M) := hD.part (cx := []) [] (by decide) rfl
        have hFc : ∀ q, va_A ([] ++ va_pl L M) H_3.size q → A q := pg_free hDc hS hA
        refine va_calli (va_runV (As := [.int k4]) (rest := []) ⟨hx, hb, hml, hown, hg⟩ (r_X12_isFree l D cy K L M H_3.size b23 k4  hW hb_25) (cwV 1 hg (gV wd_807 wd_808 wd_809 wd_737 wd_810) rfl rfl rfl (by decide +kernel) ⟨(Nat.le_trans (Nat.le_of_ble_eq_true rfl) hRf), (Nat.le_trans (Nat.le_of_ble_eq_true rfl) hRl)⟩) ⟨PG.blind, pg_recv hK hP hb_25.1 hM26 rfl, fun U hU hW => ⟨rfl, PG.at hPc hK hDc hN hU hW⟩⟩ rfl rfl hl.1 rfl (lv_room (Nat.le_of_ble_eq_true rfl)) dX13_join_49 ⟨(Nat.le_trans (Nat.le_of_ble_eq_true rfl) hRc), (Nat.le_trans (Nat.le_of_ble_eq_true rfl) hRs)⟩) hS (fun q _ h => hFc q h) hFc (fun r_28 M_29 t H_27 locs ht hvm hw hB hz1 hk1 hS => ?_)
        have hp_30 := hw
        obtain ⟨hP1, hD1⟩ := hB
        rw [ht] at hP1
        obtain ⟨hP, hD⟩ := va_joinP (X := [(za, .inr (13, [.int 0, .ref z1, .int (nI z2), .int (nI z3), .int z4, .int z5, .ref z6, .ref z7, .ref z8, .ref z9, .int (nI 0), .ref z11, .ref z12, .ref z13, .ref z14, .ref z15, .int (nI z16), .ref z17, .int z18, .ref z19]))]) (cx := []) (wr := [(za, .inr (13, [.int 0, .ref z1, .int (nI z2), .int (nI z3), .int z4, .int z5, .ref z6, .ref z7, .ref z8, .ref z9, .int (nI 0), .ref z11, .ref z12, .ref z13, .ref z14, .ref z15, .int (nI z16), .ref z17, .int z18, .ref z19]))]) (rx := []) (pl := va_pl L M) (pl1 := va_pl L M) hP hD [] [0] rfl rfl (by decide) (by decide) hk1 hFc hP1 hD1
        have hP : va_P D vwCl ([(za, .inr (13, [.int 0, .ref z1, .int (nI z2), .int (nI z3), .int z4, .int z5, .ref z6, .ref z7, .ref z8, .ref z9, .int (nI 0), .ref z11, .ref z12, .ref z13, .ref z14, .ref z15, .int (nI z16), .ref z17, .int z18, .ref z19]))] ++ va_pl L M) H_27 := hP
        have hD : va_D A ([(za, .inr (13, [.int 0, .ref z1, .int (nI z2), .int (nI z3), .int z4, .int z5, .ref z6, .ref z7, .ref z8, .ref z9, .int (nI 0), .ref z11, .ref z12, .ref z13, .ref z14, .ref z15, .int (nI z16), .ref z17, .int z18, .ref z19]))] ++ va_pl L M) := hD
        rcases hp_30 with ⟨rfl, c_31, c_32⟩ | rfl
        · have hz := rfl (a := 0)
          refine lv_if_ne (tgt := 61) hx hb dX13_join_52 (by decide) (fun _ => ?_) (fun c_33 => absurd c_33 (by decide))
          refine lv_aload hx hb dX13_join_61 (lv_at hl 0 rfl) ?_
          obtain ⟨v34, hv34, hc34⟩ : ∃ v : Nat, fs26[9]? = some (.ref v : Value) ∧ isk K L v 33 6 := hl26 9 (by decide)
          refine pg_getN (D := D) (ci := 12) (v := .ref v34) (C := RX12) (T := TX12) (N := 51) hx hb hg inG12 hown hK hP hb_25.1 hM26 rfl 9 (by decide) (hN.use (Cond.fieldLinkNest RX13 92 RX12 "seat" "[I" RX13) 18 rfl rfl) (fun _ h9 => h9) hv34 dX13_join_63 ?_
          refine lv_iload_n hx hb dX13_join_66 rfl (lv_at hl 3 rfl) ?_
          obtain ⟨f35, hM35, hf35⟩ := hW.open_33 hc34
          have hi_36 : vp_in k2 6 := (inb k2 6 (by omega) c_9 c_10)
          refine pg_iald hx hb hK hP hc34.1 0 hM35 rfl hi_36 dX13_join_67 ?_
          have hp_37 := hf35 _ (vp_lt hi_36)
          refine lv_topi (fun f_38 ef_38 => ?_)
          rw [← ef_38] at hp_37
          obtain ⟨g_39, g_40⟩ := hp_37
          refine lv_if_ge (tgt := 75) hx hb dX13_join_68 (by decide) (fun c_41 => ?_) (fun c_41 => ?_)
          · have hz := rfl (a := 0)
            refine lv_iconst (v := 0) hx hb dX13_join_75 (by decide) ?_
            refine lv_istore (lv' := [(7, .int 0), (6, .ref b23), (0, .ref za), (1, .int (nI j_19)), (2, .int k2), (3, .int k3), (4, .int k4), (5, .int k5)]) hx hb dX13_join_76 hl (by decide) rfl (fun ls hl => ?_)
            refine lv_iconst (v := 0) hx hb dX13_join_78 (by decide) ?_
            refine lv_istore (lv' := [(8, .int 0), (7, .int 0), (6, .ref b23), (0, .ref za), (1, .int (nI j_19)), (2, .int k2), (3, .int k3), (4, .int k4), (5, .int k5)]) hx hb dX13_join_79 hl (by decide) rfl (fun ls hl => ?_)
            have key_42 : ∀ (fu_44 : Nat) (v7w45 : Int32) (v8w45 : Nat) (M_48 : Hp) (H_49 : Heap) (locs : List Loc) (ls : Array Slot), 24 - v8w45 < fu_44 → (v7w45 = 0 ∨ v7w45 = 1) → M_48 b23 = .inr (12, fs26) → v8w45 ≤ 24 → WOM cy K L M_48 → fr K L [12, 14, 16, 30, 31, 33, 34, 41, 42, 49, 50, 75, 76] M M_48 → fG K L [10] M M_48 → VW K L M M_48 b23 (fx M b23) (ax M b23) → va_P D vwCl ([(za, .inr (13, [.int 0, .ref z1, .int (nI z2), .int (nI z3), .int z4, .int z5, .ref z6, .ref z7, .ref z8, .ref z9, .int (nI 0), .ref z11, .ref z12, .ref z13, .ref z14, .ref z15, .int (nI z16), .ref z17, .int z18, .ref z19]))] ++ va_pl L M_48) H_49 → va_D A ([(za, .inr (13, [.int 0, .ref z1, .int (nI z2), .int (nI z3), .int z4, .int z5, .ref z6, .ref z7, .ref z8, .ref z9, .int (nI 0), .ref z11, .ref z12, .ref z13, .ref z14, .ref z15, .int (nI z16), .ref z17, .int z18, .ref z19]))] ++ va_pl L M_48) → va_S A s.heap H_49 locs → lv_has ls 9 [(8, .int (nI v8w45)), (7, .int v7w45), (6, .ref b23), (0, .ref za), (1, .int (nI j_19)), (2, .int k2), (3, .int k3), (4, .int k4), (5, .int k5)] → W p l e R s m ([.ref za, .int (nI j_19), .int k2, .int k3, .int k4, .int k5] : List Value).toArray below meth c H_49 locs 0 0 Q (F0 m 81 ls []) := by
              intro fu_44
              induction fu_44 with
              | zero => intro v7w45 v8w45 M_48 H_49 locs ls h; exact absurd h (Nat.not_lt_zero _)
              | succ fu_44 ih_43 =>
                intro v7w45 v8w45 M_48 H_49 locs ls hfu hq_46 hM_50 hx_47 hW hF hG hV hP hD hS hl
                rcases hq_46 with rfl | rfl
                · have hz := rfl (a := 0)
                  refine lv_iload hx hb dX13_join_81 (lv_at hl 0 rfl) ?_
                  refine lv_aload hx hb dX13_join_83 (lv_at hl 2 rfl) ?_
                  obtain ⟨v51, hv51, hc51⟩ : ∃ v : Nat, fs26[10]? = some (.int (nI v) : Value) ∧ v ≤ 24 := hl26 10 (by decide)
                  refine pg_getN (D := D) (ci := 12) (v := .int (nI v51)) (C := RX12) (T := TX12) (N := 51) hx hb hg inG12 hown hK hP hb_25.1 hM_50 rfl 10 (by decide) (hN.use (Cond.fieldLinkNest RX13 68 RX12 "tenures" "I" RX13) 19 rfl rfl) (fun _ h9 => h9) hv51 dX13_join_85 ?_
                  refine lv_icmp_ge (tgt := 146) hx hb dX13_join_88 (by decide) (fun c_52 => ?_) (fun c_52 => ?_)
                  · have hz := rfl (a := 0)
                    have n_53 : v51 ≤ v8w45 := (iLE (a := v51) (b := v8w45) (by omega) (by omega)).mp c_52
                    refine lv_iload hx hb dX13_join_146 (lv_at hl 1 rfl) ?_
                    refine lv_if_eq (tgt := 157) hx hb dX13_join_148 (by decide) (fun _ => ?_) (fun c_54 => absurd c_54 (by decide))
                    refine lv_aload_n hx hb dX13_join_157 rfl (lv_at hl 3 rfl) ?_
                    refine va_get (D := D) (ci := 13) (v := .ref z6) (C := RX13) (T := TX13) (N := 20) hx hb hg inG13 hown hK hP 0 rfl rfl 6 (by decide) (hg _ wd_719) (fun _ h9 => h9) rfl dX13_join_158 ?_
                    refine lv_iload_n hx hb dX13_join_161 rfl (lv_at hl 6 rfl) ?_
                    obtain ⟨f55, hM55, hf55⟩ := hW.open_47 i6
                    have hi_56 : vp_in k3 40 := (inb k3 40 (by omega) c_12 n_18)
                    refine pg_iald hx hb hK hP i6.1 0 hM55 rfl hi_56 dX13_join_162 ?_
                    have hp_57 := hf55 _ (vp_lt hi_56)
                    obtain ⟨c_58, hc_59, ec_60⟩ := hp_57
                    rw [ec_60]
                    refine lv_iconst (v := 5) hx hb dX13_join_163 (by decide) ?_
                    refine lv_icmp_ne (tgt := 196) hx hb dX13_join_164 (by decide) (fun c_61 => ?_) (fun c_61 => ?_)
                    · have hz := rfl (a := 0)
                      have n_62 : ¬ (c_58 = 5) := fun q => c_61 ((iEQ (a := c_58) (b := 5) (by omega) (by omega)).mpr q)
                      refine lv_aload hx hb dX13_join_196 (lv_at hl 2 rfl) ?_
                      refine pg_getN (D := D) (ci := 12) (v := .int (nI v51)) (C := RX12) (T := TX12) (N := 51) hx hb hg inG12 hown hK hP hb_25.1 hM_50 rfl 10 (by decide) (hN.use (Cond.fieldLinkNest RX13 68 RX12 "tenures" "I" RX13) 19 rfl rfl) (fun _ h9 => h9) hv51 dX13_join_198 ?_
                      refine lv_bipush (v := 24) hx hb dX13_join_201 (by decide) ?_
                      refine lv_icmp_ne (tgt := 213) hx hb dX13_join_203 (by decide) (fun c_63 => ?_) (fun c_63 => ?_)
                      · have hz := rfl (a := 0)
                        have n_64 : ¬ (v51 = 24) := fun q => c_63 ((iEQ (a := v51) (b := 24) (by omega) (by omega)).mpr q)
                        refine lv_aload_n hx hb dX13_join_213 rfl (lv_at hl 3 rfl) ?_
                        refine lv_aload_n hx hb dX13_join_214 rfl (lv_at hl 3 rfl) ?_
                        refine lv_aload hx hb dX13_join_215 (lv_at hl 2 rfl) ?_
                        refine lv_iload_n hx hb dX13_join_217 rfl (lv_at hl 5 rfl) ?_
                        refine lv_iload_n hx hb dX13_join_218 rfl (lv_at hl 6 rfl) ?_
                        refine lv_iload hx hb dX13_join_219 (lv_at hl 7 rfl) ?_
                        refine lv_iload hx hb dX13_join_221 (lv_at hl 8 rfl) ?_
                        obtain ⟨j_65, hj_66, rfl⟩ := i32nat 6 (by decide) c_9 c_10
                        obtain ⟨j_67, hj_68, rfl⟩ := i32nat 40 (by decide) c_12 n_18
                        have hPc : va_P D vwCl ([(za, .inr (13, [.int 0, .ref z1, .int (nI z2), .int (nI z3), .int z4, .int z5, .ref z6, .ref z7, .ref z8, .ref z9, .int (nI 0), .ref z11, .ref z12, .ref z13, .ref z14, .ref z15, .int (nI z16), .ref z17, .int z18, .ref z19]))] ++ va_pl L M_48) H_49 := hP
                        have hDc : va_D A ([(za, .inr (13, [.int 0, .ref z1, .int (nI z2), .int (nI z3), .int z4, .int z5, .ref z6, .ref z7, .ref z8, .ref z9, .int (nI 0), .ref z11, .ref z12, .ref z13, .ref z14, .ref z15, .int (nI z16), .ref z17, .int z18, .ref z19]))] ++ va_pl L M_48) := hD
                        have hFc : ∀ q, va_A ([(za, .inr (13, [.int 0, .ref z1, .int (nI z2), .int (nI z3), .int z4, .int z5, .ref z6, .ref z7, .ref z8, .ref z9, .int (nI 0), .ref z11, .ref z12, .ref z13, .ref z14, .ref z15, .int (nI z16), .ref z17, .int z18, .ref z19]))] ++ va_pl L M_48) H_49.size q → A q := pg_free hDc hS hA
                        refine va_calli (va_runV (As := [.ref b23, .int (nI j_65), .int (nI j_67), .int k4, .int k5]) (rest := [.ref za]) ⟨hx, hb, hml, hown, hg⟩ (r_begins2 l D cy K L M_48 H_49.size za 0 z1 z2 z3 z4 z5 z6 z7 z8 z9 0 z11 z12 z13 z14 z15 z16 z17 z18 z19 b23 j_65 j_67 k4 k5  hW i1 b2 b3 i6 i7 i8 i9 (by omega) i11 i12 i13 i14 i15 b16 i17 i19 hb_25 (by omega) (by omega) ⟨_, _, hM_50, hv51, by omega⟩ hV.2.2.2) (cwV 5 hg (gV wd_832 wd_833 wd_834 wd_717 wd_835) rfl rfl rfl (by decide +kernel) ⟨(Nat.le_trans (Nat.le_of_ble_eq_true rfl) hRf), (Nat.le_trans (Nat.le_of_ble_eq_true rfl) hRl)⟩) ⟨PG.blind, va_recv hK hP (ci := 13) (q0 := 0) rfl rfl, fun U hU hW => ⟨rfl, PG.at hPc hK hDc hN hU hW⟩⟩ rfl rfl hl.1 rfl (lv_room (Nat.le_of_ble_eq_true rfl)) dX13_join_223 ⟨(Nat.le_trans (Nat.le_of_ble_eq_true rfl) hRc), (Nat.le_trans (Nat.le_of_ble_eq_true rfl) hRs)⟩) hS (fun q _ h => hFc q h) hFc (fun r_70 M_71 t H_69 locs ht hvm hw hB hz1 hk1 hS => ?_)
                        have hWb := hW
                        obtain ⟨hW, hF2, hG2, hVP, hp_72⟩ := hw
                        obtain ⟨hP1, hD1⟩ := hB
                        rw [ht] at hP1
                        have hP : va_P D vwCl ([(za, .inr (13, [.int 0, .ref z1, .int (nI z2), .int (nI z3), .int z4, .int z5, .ref z6, .ref z7, .ref z8, .ref z9, .int (nI 0), .ref z11, .ref z12, .ref z13, .ref z14, .ref z15, .int (nI z16), .ref z17, .int z18, .ref z19]))] ++ va_pl L M_71) H_69 := hP1
                        have hD : va_D A ([(za, .inr (13, [.int 0, .ref z1, .int (nI z2), .int (nI z3), .int z4, .int z5, .ref z6, .ref z7, .ref z8, .ref z9, .int (nI 0), .ref z11, .ref z12, .ref z13, .ref z14, .ref z15, .int (nI z16), .ref z17, .int z18, .ref z19]))] ++ va_pl L M_71) := hD1.mono hFc
                        obtain ⟨fs73, hM73, hn73, hl73⟩ := hW.open_12 hb_25
                        have hv_74 : fs73[9]? = some (.ref v34 : Value) := (hG2 _ hb_25 _ _ hM_50 hM73 9 (by decide)).trans hv34
                        have hM_75 : M_71 z6 = .inl (cy 14, 40, .inl (f55)) := (hF2.at i6 (by decide)).trans hM55
                        have hF : fr K L [12, 14, 16, 30, 31, 33, 34, 41, 42, 49, 50, 75, 76] M M_71 := hF.tr hF2 (by decide)
                        have hG : fG K L [10] M M_71 := hG.tr hWb hG2 (by decide)
                        obtain ⟨n_76, hn9, hlt9, hV2⟩ := hVP
                        rw [hV.2.1] at hn9
                        rw [hV.2.1, hV.2.2.1] at hV2
                        have hn9 : (fx M b23 10) = (n_76 : Int) := hn9
                        have hV : VW K L M M_71 b23 (va_up (fx M b23) 10 ((n_76 + 1 : Nat) : Int)) (va_up (va_up (va_up (va_up (va_up (va_up (va_up (va_up (ax M b23) 19 (upd (ax M b23 19) (nI n_76).toNatClampNeg (nI j_67))) 20 (upd (ax M b23 20) (nI n_76).toNatClampNeg (nI j_65))) 21 (upd (ax M b23 21) (nI n_76).toNatClampNeg k4)) 22 (upd (ax M b23 22) (nI n_76).toNatClampNeg (-1))) 23 (upd (ax M b23 23) (nI n_76).toNatClampNeg 0)) 24 (upd (ax M b23 24) (nI n_76).toNatClampNeg 0)) 25 (upd (ax M b23 25) (nI n_76).toNatClampNeg (-1))) 9 (upd (ax M b23 9) (nI j_65).toNatClampNeg (nI (n_76 + 1)))) := hV.tr hV2
                        obtain ⟨j_77, rfl, c_78⟩ := hp_72
                        have hPc := hP.sub (ws' := [(za, .inr (13, [.int 0, .ref z1, .int (nI z2), .int (nI z3), .int z4, .int z5, .ref z6, .ref z7, .ref z8, .ref z9, .int (nI 0), .ref z11, .ref z12, .ref z13, .ref z14, .ref z15, .int (nI z16), .ref z17, .int z18, .ref z19]))]) [0] rfl
                        have hDc := hD.sub (ws' := [(za, .inr (13, [.int 0, .ref z1, .int (nI z2), .int (nI z3), .int z4, .int z5, .ref z6, .ref z7, .ref z8, .ref z9, .int (nI 0), .ref z11, .ref z12, .ref z13, .ref z14, .ref z15, .int (nI z16), .ref z17, .int z18, .ref z19]))]) [0] (by decide) rfl
                        have hKc := hK.sub (tys' := []) [] rfl
                        have hFc := va_free (wc := [(za, .inr (13, [.int 0, .ref z1, .int (nI z2), .int (nI z3), .int z4, .int z5, .ref z6, .ref z7, .ref z8, .ref z9, .int (nI 0), .ref z11, .ref z12, .ref z13, .ref z14, .ref z15, .int (nI z16), .ref z17, .int z18, .ref z19]))]) hD hS hA [0] rfl
                        refine va_calli (va_runV (As := [.int (nI j_77)]) (rest := []) ⟨hx, hb, hml, hown, hg⟩ (m_done l D H_69.size za 0 z1 (nI z2) (nI z3) z4 z5 z6 z7 z8 z9 (nI 0) z11 z12 z13 z14 z15 (nI z16) z17 z18 z19 (nI j_77)) (cwV 1 hg (gV wd_730 wd_731 wd_732 wd_717 wd_733) rfl rfl rfl (by decide +kernel) ⟨(Nat.le_trans (Nat.le_of_ble_eq_true rfl) hRf), (Nat.le_trans (Nat.le_of_ble_eq_true rfl) hRl)⟩) ⟨Pr.blind, va_recv hK hP (ci := 13) (q0 := 0) rfl rfl, fun U hU hW => ⟨rfl, Pr.at hPc hKc hDc hN hU hW⟩⟩ rfl rfl hl.1 rfl (lv_room (Nat.le_of_ble_eq_true rfl)) dX13_join_226 ⟨(Nat.le_trans (Nat.le_of_ble_eq_true rfl) hRc), (Nat.le_trans (Nat.le_of_ble_eq_true rfl) hRs)⟩) hS (fun q _ h => hFc q h) hFc (fun r_80 M_81 t H_79 locs ht hvm hw hB hz1 hk1 hS => ?_)
                        have hp_82 := hw
                        obtain ⟨hP1, hK1, hD1⟩ := hB
                        rw [ht] at hP1
                        obtain ⟨hP, hD⟩ := va_joinQ (X := [(za, .inr (13, [.int 0, .ref z1, .int (nI z2), .int (nI z3), .int z4, .int z5, .ref z6, .ref z7, .ref z8, .ref z9, .int (nI 0), .ref z11, .ref z12, .ref z13, .ref z14, .ref z15, .int (nI z16), .ref z17, .int z18, .ref z19]))]) (cx := [(za, .inr (13, [.int 0, .ref z1, .int (nI z2), .int (nI z3), .int z4, .int z5, .ref z6, .ref z7, .ref z8, .ref z9, .int (nI 0), .ref z11, .ref z12, .ref z13, .ref z14, .ref z15, .int (nI z16), .ref z17, .int z18, .ref z19]))]) (wr := []) (w1 := [(za, .inr (13, [.int 0, .ref z1, .int (nI z2), .int (nI z3), .int 0, .int (-1), .ref z6, .ref z7, .ref z8, .ref z9, .int (nI 0), .ref z11, .ref z12, .ref z13, .ref z14, .ref z15, .int (nI z16), .ref z17, .int z18, .ref z19]))]) (pl := va_pl L M_71) hP hD [0] [] rfl rfl (by decide) (by decide) hk1 hFc hP1 hD1
                        have hP : va_P D vwCl ([(za, .inr (13, [.int 0, .ref z1, .int (nI z2), .int (nI z3), .int 0, .int (-1), .ref z6, .ref z7, .ref z8, .ref z9, .int (nI 0), .ref z11, .ref z12, .ref z13, .ref z14, .ref z15, .int (nI z16), .ref z17, .int z18, .ref z19]))] ++ va_pl L M_71) H_79 := hP
                        have hD : va_D A ([(za, .inr (13, [.int 0, .ref z1, .int (nI z2), .int (nI z3), .int 0, .int (-1), .ref z6, .ref z7, .ref z8, .ref z9, .int (nI 0), .ref z11, .ref z12, .ref z13, .ref z14, .ref z15, .int (nI z16), .ref z17, .int z18, .ref z19]))] ++ va_pl L M_71) := hD
                        have hq := Eq.symm hp_82
                        subst hq
                        have hA9 : HA (ax M b23 2) (ax M b23 3) := hAT.1
                        have hB9 : HB (fx M b23 16) (fx M b23 14) (ax M b23 3) (ax M b23 43) := hAT.2.1
                        have hC9 : HC ((n_76 + 1 : Nat) : Int) (upd (ax M b23 22) (nI n_76).toNatClampNeg (-1)) (upd (ax M b23 23) (nI n_76).toNatClampNeg 0) := HC.beg hAT.2.2.1 hn9 (by omega) (nI_cl (by omega))
                        have hD9 : HD (fx M b23 0) (fx M b23 11) (fx M b23 15) (ax M b23 34) (ax M b23 41) := hAT.2.2.2.1
                        have hE9 : HE (fx M b23 0) (fx M b23 1) (fx M b23 12) (fx M b23 13) (ax M b23 37) := hAT.2.2.2.2
                        have hH9 : HI (va_up (fx M b23) 10 ((n_76 + 1 : Nat) : Int)) (va_up (va_up (va_up (va_up (va_up (va_up (va_up (va_up (ax M b23) 19 (upd (ax M b23 19) (nI n_76).toNatClampNeg (nI j_67))) 20 (upd (ax M b23 20) (nI n_76).toNatClampNeg (nI j_65))) 21 (upd (ax M b23 21) (nI n_76).toNatClampNeg k4)) 22 (upd (ax M b23 22) (nI n_76).toNatClampNeg (-1))) 23 (upd (ax M b23 23) (nI n_76).toNatClampNeg 0)) 24 (upd (ax M b23 24) (nI n_76).toNatClampNeg 0)) 25 (upd (ax M b23 25) (nI n_76).toNatClampNeg (-1))) 9 (upd (ax M b23 9) (nI j_65).toNatClampNeg (nI (n_76 + 1)))) := ⟨hA9, hB9, hC9, hD9, hE9⟩
                        have hGI9 : GI K L z1 z2 M_71 := GI.fin hW0 i1 b2 hGI hact hV (hF.at i1 (by decide)) hH9
                        rw [hQ]
                        exact W.iret (v := (nI j_77)) hx hb hr (fun t ht hW9 => ⟨⟨(nI j_77), M_71, rfl, ⟨hW, hF, hG, hGI9, trivial⟩, ⟨0, (-1), 0, (by omega), by rw [ht]; exact hP, hD⟩⟩, hS.F ht⟩) hS.2.2 dX13_join_229
                      · have hz := rfl (a := 0)
                        have n_83 : v51 = 24 := (iEQ (a := v51) (b := 24) (by omega) (by omega)).mp c_63
                        refine lv_aload_n hx hb dX13_join_206 rfl (lv_at hl 3 rfl) ?_
                        refine lv_bipush (v := 9) hx hb dX13_join_207 (by decide) ?_
                        have hPc := hP.sub (ws' := [(za, .inr (13, [.int 0, .ref z1, .int (nI z2), .int (nI z3), .int z4, .int z5, .ref z6, .ref z7, .ref z8, .ref z9, .int (nI 0), .ref z11, .ref z12, .ref z13, .ref z14, .ref z15, .int (nI z16), .ref z17, .int z18, .ref z19]))]) [0] rfl
                        have hDc := hD.sub (ws' := [(za, .inr (13, [.int 0, .ref z1, .int (nI z2), .int (nI z3), .int z4, .int z5, .ref z6, .ref z7, .ref z8, .ref z9, .int (nI 0), .ref z11, .ref z12, .ref z13, .ref z14, .ref z15, .int (nI z16), .ref z17, .int z18, .ref z19]))]) [0] (by decide) rfl
                        have hKc := hK.sub (tys' := []) [] rfl
                        have hFc := va_free (wc := [(za, .inr (13, [.int 0, .ref z1, .int (nI z2), .int (nI z3), .int z4, .int z5, .ref z6, .ref z7, .ref z8, .ref z9, .int (nI 0), .ref z11, .ref z12, .ref z13, .ref z14, .ref z15, .int (nI z16), .ref z17, .int z18, .ref z19]))]) hD hS hA [0] rfl
                        refine va_calli (va_runV (As := [.int 9]) (rest := []) ⟨hx, hb, hml, hown, hg⟩ (m_refused l D H_49.size za 0 z1 (nI z2) (nI z3) z4 z5 z6 z7 z8 z9 (nI 0) z11 z12 z13 z14 z15 (nI z16) z17 z18 z19 9) (cwV 1 hg (gV wd_725 wd_726 wd_727 wd_717 wd_728) rfl rfl rfl (by decide +kernel) ⟨(Nat.le_trans (Nat.le_of_ble_eq_true rfl) hRf), (Nat.le_trans (Nat.le_of_ble_eq_true rfl) hRl)⟩) ⟨Pr.blind, va_recv hK hP (ci := 13) (q0 := 0) rfl rfl, fun U hU hW => ⟨rfl, Pr.at hPc hKc hDc hN hU hW⟩⟩ rfl rfl hl.1 rfl (lv_room (Nat.le_of_ble_eq_true rfl)) dX13_join_209 ⟨(Nat.le_trans (Nat.le_of_ble_eq_true rfl) hRc), (Nat.le_trans (Nat.le_of_ble_eq_true rfl) hRs)⟩) hS (fun q _ h => hFc q h) hFc (fun r_85 M_86 t H_84 locs ht hvm hw hB hz1 hk1 hS => ?_)
                        have hp_87 := hw
                        obtain ⟨hP1, hK1, hD1⟩ := hB
                        rw [ht] at hP1
                        obtain ⟨hP, hD⟩ := va_joinQ (X := [(za, .inr (13, [.int 0, .ref z1, .int (nI z2), .int (nI z3), .int z4, .int z5, .ref z6, .ref z7, .ref z8, .ref z9, .int (nI 0), .ref z11, .ref z12, .ref z13, .ref z14, .ref z15, .int (nI z16), .ref z17, .int z18, .ref z19]))]) (cx := [(za, .inr (13, [.int 0, .ref z1, .int (nI z2), .int (nI z3), .int z4, .int z5, .ref z6, .ref z7, .ref z8, .ref z9, .int (nI 0), .ref z11, .ref z12, .ref z13, .ref z14, .ref z15, .int (nI z16), .ref z17, .int z18, .ref z19]))]) (wr := []) (w1 := [(za, .inr (13, [.int 0, .ref z1, .int (nI z2), .int (nI z3), .int 9, .int (-1), .ref z6, .ref z7, .ref z8, .ref z9, .int (nI 0), .ref z11, .ref z12, .ref z13, .ref z14, .ref z15, .int (nI z16), .ref z17, .int z18, .ref z19]))]) (pl := va_pl L M_48) hP hD [0] [] rfl rfl (by decide) (by decide) hk1 hFc hP1 hD1
                        have hP : va_P D vwCl ([(za, .inr (13, [.int 0, .ref z1, .int (nI z2), .int (nI z3), .int 9, .int (-1), .ref z6, .ref z7, .ref z8, .ref z9, .int (nI 0), .ref z11, .ref z12, .ref z13, .ref z14, .ref z15, .int (nI z16), .ref z17, .int z18, .ref z19]))] ++ va_pl L M_48) H_84 := hP
                        have hD : va_D A ([(za, .inr (13, [.int 0, .ref z1, .int (nI z2), .int (nI z3), .int 9, .int (-1), .ref z6, .ref z7, .ref z8, .ref z9, .int (nI 0), .ref z11, .ref z12, .ref z13, .ref z14, .ref z15, .int (nI z16), .ref z17, .int z18, .ref z19]))] ++ va_pl L M_48) := hD
                        have hq := Eq.symm hp_87
                        subst hq
                        have hA9 : HA (ax M b23 2) (ax M b23 3) := hAT.1
                        have hB9 : HB (fx M b23 16) (fx M b23 14) (ax M b23 3) (ax M b23 43) := hAT.2.1
                        have hC9 : HC (fx M b23 10) (ax M b23 22) (ax M b23 23) := hAT.2.2.1
                        have hD9 : HD (fx M b23 0) (fx M b23 11) (fx M b23 15) (ax M b23 34) (ax M b23 41) := hAT.2.2.2.1
                        have hE9 : HE (fx M b23 0) (fx M b23 1) (fx M b23 12) (fx M b23 13) (ax M b23 37) := hAT.2.2.2.2
                        have hH9 : HI (fx M b23) (ax M b23) := ⟨hA9, hB9, hC9, hD9, hE9⟩
                        have hGI9 : GI K L z1 z2 M_48 := GI.fin hW0 i1 b2 hGI hact hV (hF.at i1 (by decide)) hH9
                        rw [hQ]
                        exact W.iret (v := (-1)) hx hb hr (fun t ht hW9 => ⟨⟨(-1), M_48, rfl, ⟨hW, hF, hG, hGI9, trivial⟩, ⟨9, (-1), 0, (by omega), by rw [ht]; exact hP, hD⟩⟩, hS.F ht⟩) hS.2.2 dX13_join_212
                    · have hz := rfl (a := 0)
                      have n_88 : c_58 = 5 := (iEQ (a := c_58) (b := 5) (by omega) (by omega)).mp c_61
                      refine lv_aload_n hx hb dX13_join_167 rfl (lv_at hl 3 rfl) ?_
                      refine lv_aload_n hx hb dX13_join_168 rfl (lv_at hl 3 rfl) ?_
                      refine lv_iload_n hx hb dX13_join_169 rfl (lv_at hl 4 rfl) ?_
                      refine lv_aload_n hx hb dX13_join_170 rfl (lv_at hl 3 rfl) ?_
                      refine va_get (D := D) (ci := 13) (v := .ref z7) (C := RX13) (T := TX13) (N := 20) hx hb hg inG13 hown hK hP 0 rfl rfl 7 (by decide) (hg _ wd_760) (fun _ h9 => h9) rfl dX13_join_171 ?_
                      refine lv_iload_n hx hb dX13_join_174 rfl (lv_at hl 6 rfl) ?_
                      obtain ⟨f89, hM89⟩ := hW.open_48 i7
                      refine pg_iald hx hb hK hP i7.1 0 hM89 rfl (inb k3 40 (by omega) c_12 n_18) dX13_join_175 ?_
                      refine lv_topi (fun f_90 ef_90 => ?_)
                      have hPc : va_P D vwCl ([(za, .inr (13, [.int 0, .ref z1, .int (nI z2), .int (nI z3), .int z4, .int z5, .ref z6, .ref z7, .ref z8, .ref z9, .int (nI 0), .ref z11, .ref z12, .ref z13, .ref z14, .ref z15, .int (nI z16), .ref z17, .int z18, .ref z19]))] ++ va_pl L M_48) H_49 := hP
                      have hDc : va_D A ([(za, .inr (13, [.int 0, .ref z1, .int (nI z2), .int (nI z3), .int z4, .int z5, .ref z6, .ref z7, .ref z8, .ref z9, .int (nI 0), .ref z11, .ref z12, .ref z13, .ref z14, .ref z15, .int (nI z16), .ref z17, .int z18, .ref z19]))] ++ va_pl L M_48) := hD
                      have hFc : ∀ q, va_A ([(za, .inr (13, [.int 0, .ref z1, .int (nI z2), .int (nI z3), .int z4, .int z5, .ref z6, .ref z7, .ref z8, .ref z9, .int (nI 0), .ref z11, .ref z12, .ref z13, .ref z14, .ref z15, .int (nI z16), .ref z17, .int z18, .ref z19]))] ++ va_pl L M_48) H_49.size q → A q := pg_free hDc hS hA
                      refine va_calli (va_runV (As := [.int (nI j_19), .int f_90]) (rest := [.ref za]) ⟨hx, hb, hml, hown, hg⟩ (r_X13_way l D cy K L M_48 H_49.size za 0 z1 z2 z3 z4 z5 z6 z7 z8 z9 0 z11 z12 z13 z14 z15 z16 z17 z18 z19 j_19 f_90  hW i1 b2 b3 i6 i7 i8 i9 (by omega) i11 i12 i13 i14 i15 b16 i17 i19 (by omega)) (cwV 2 hg (gV wd_891 wd_892 wd_893 wd_717 wd_894) rfl rfl rfl (by decide +kernel) ⟨(Nat.le_trans (Nat.le_of_ble_eq_true rfl) hRf), (Nat.le_trans (Nat.le_of_ble_eq_true rfl) hRl)⟩) ⟨PG.blind, va_recv hK hP (ci := 13) (q0 := 0) rfl rfl, fun U hU hW => ⟨rfl, PG.at hPc hK hDc hN hU hW⟩⟩ rfl rfl hl.1 rfl (lv_room (Nat.le_of_ble_eq_true rfl)) dX13_join_176 ⟨(Nat.le_trans (Nat.le_of_ble_eq_true rfl) hRc), (Nat.le_trans (Nat.le_of_ble_eq_true rfl) hRs)⟩) hS (fun q _ h => hFc q h) hFc (fun r_92 M_93 t H_91 locs ht hvm hw hB hz1 hk1 hS => ?_)
                      have hWb := hW
                      obtain ⟨hW, hF2, hp_94⟩ := hw
                      obtain ⟨hP1, hD1⟩ := hB
                      rw [ht] at hP1
                      have hP : va_P D vwCl ([(za, .inr (13, [.int 0, .ref z1, .int (nI z2), .int (nI z3), .int z4, .int z5, .ref z6, .ref z7, .ref z8, .ref z9, .int (nI 0), .ref z11, .ref z12, .ref z13, .ref z14, .ref z15, .int (nI z16), .ref z17, .int z18, .ref z19]))] ++ va_pl L M_93) H_91 := hP1
                      have hD : va_D A ([(za, .inr (13, [.int 0, .ref z1, .int (nI z2), .int (nI z3), .int z4, .int z5, .ref z6, .ref z7, .ref z8, .ref z9, .int (nI 0), .ref z11, .ref z12, .ref z13, .ref z14, .ref z15, .int (nI z16), .ref z17, .int z18, .ref z19]))] ++ va_pl L M_93) := hD1.mono hFc
                      have hM_95 : M_93 b23 = .inr (12, fs26) := (hF2.at hb_25 (by decide)).trans hM_50
                      have hM_96 : M_93 z6 = .inl (cy 14, 40, .inl (f55)) := (hF2.at i6 (by decide)).trans hM55
                      have hM_97 : M_93 z7 = .inl (cy 14, 40, .inl (f89)) := (hF2.at i7 (by decide)).trans hM89
                      have hF : fr K L [12, 14, 16, 30, 31, 33, 34, 41, 42, 49, 50, 75, 76] M M_93 := hF.tr hF2 (by decide)
                      have hG : fG K L [10] M M_93 := hG.frR hF2 (by decide)
                      have hV : VW K L M M_93 b23 (fx M b23) (ax M b23) := hV.cal hWb hW hF2 ((fG.rf (js := [])).frR hF2 (by decide)) (by decide) (by decide) hb_25
                      obtain ⟨j_98, rfl, c_99⟩ := hp_94
                      refine va_put (D := D) (ci := 13) (v := .int (nI j_98)) (ty := .int) (C := RX13) (T := TX13) (N := 20) hx hb hg inG13 tyX13 tyX13_ok nmX13 hown hK hP hD hS 0 rfl rfl 10 (by decide) (hg _ wd_723) (fun _ h9 => h9) rfl (by decide +kernel) rfl rfl (Nat.le_of_ble_eq_true rfl) dX13_join_179 (fun H_100 locs hP hD hS => ?_)
                      have hP : va_P D vwCl ([(za, .inr (13, [.int 0, .ref z1, .int (nI z2), .int (nI z3), .int z4, .int z5, .ref z6, .ref z7, .ref z8, .ref z9, .int (nI j_98), .ref z11, .ref z12, .ref z13, .ref z14, .ref z15, .int (nI z16), .ref z17, .int z18, .ref z19]))] ++ va_pl L M_93) H_100 := hP
                      have hD : va_D A ([(za, .inr (13, [.int 0, .ref z1, .int (nI z2), .int (nI z3), .int z4, .int z5, .ref z6, .ref z7, .ref z8, .ref z9, .int (nI j_98), .ref z11, .ref z12, .ref z13, .ref z14, .ref z15, .int (nI z16), .ref z17, .int z18, .ref z19]))] ++ va_pl L M_93) := hD
                      refine lv_aload_n hx hb dX13_join_182 rfl (lv_at hl 3 rfl) ?_
                      refine va_get (D := D) (ci := 13) (v := .int (nI j_98)) (C := RX13) (T := TX13) (N := 20) hx hb hg inG13 hown hK hP 0 rfl rfl 10 (by decide) (hg _ wd_723) (fun _ h9 => h9) rfl dX13_join_183 ?_
                      refine lv_if_le (tgt := 196) hx hb dX13_join_186 (by decide) (fun c_101 => ?_) (fun c_101 => ?_)
                      · have hz := rfl (a := 0)
                        have n_102 : j_98 ≤ 0 := (iLE (a := j_98) (b := 0) (by omega) (by omega)).mp c_101
                        refine lv_aload hx hb dX13_join_196 (lv_at hl 2 rfl) ?_
                        refine pg_getN (D := D) (ci := 12) (v := .int (nI v51)) (C := RX12) (T := TX12) (N := 51) hx hb hg inG12 hown hK hP hb_25.1 hM_95 rfl 10 (by decide) (hN.use (Cond.fieldLinkNest RX13 68 RX12 "tenures" "I" RX13) 19 rfl rfl) (fun _ h9 => h9) hv51 dX13_join_198 ?_
                        refine lv_bipush (v := 24) hx hb dX13_join_201 (by decide) ?_
                        refine lv_icmp_ne (tgt := 213) hx hb dX13_join_203 (by decide) (fun c_103 => ?_) (fun c_103 => ?_)
                        · have hz := rfl (a := 0)
                          have n_104 : ¬ (v51 = 24) := fun q => c_103 ((iEQ (a := v51) (b := 24) (by omega) (by omega)).mpr q)
                          refine lv_aload_n hx hb dX13_join_213 rfl (lv_at hl 3 rfl) ?_
                          refine lv_aload_n hx hb dX13_join_214 rfl (lv_at hl 3 rfl) ?_
                          refine lv_aload hx hb dX13_join_215 (lv_at hl 2 rfl) ?_
                          refine lv_iload_n hx hb dX13_join_217 rfl (lv_at hl 5 rfl) ?_
                          refine lv_iload_n hx hb dX13_join_218 rfl (lv_at hl 6 rfl) ?_
                          refine lv_iload hx hb dX13_join_219 (lv_at hl 7 rfl) ?_
                          refine lv_iload hx hb dX13_join_221 (lv_at hl 8 rfl) ?_
                          obtain ⟨j_105, hj_106, rfl⟩ := i32nat 6 (by decide) c_9 c_10
                          obtain ⟨j_107, hj_108, rfl⟩ := i32nat 40 (by decide) c_12 n_18
                          have hPc : va_P D vwCl ([(za, .inr (13, [.int 0, .ref z1, .int (nI z2), .int (nI z3), .int z4, .int z5, .ref z6, .ref z7, .ref z8, .ref z9, .int (nI j_98), .ref z11, .ref z12, .ref z13, .ref z14, .ref z15, .int (nI z16), .ref z17, .int z18, .ref z19]))] ++ va_pl L M_93) H_100 := hP
                          have hDc : va_D A ([(za, .inr (13, [.int 0, .ref z1, .int (nI z2), .int (nI z3), .int z4, .int z5, .ref z6, .ref z7, .ref z8, .ref z9, .int (nI j_98), .ref z11, .ref z12, .ref z13, .ref z14, .ref z15, .int (nI z16), .ref z17, .int z18, .ref z19]))] ++ va_pl L M_93) := hD
                          have hFc : ∀ q, va_A ([(za, .inr (13, [.int 0, .ref z1, .int (nI z2), .int (nI z3), .int z4, .int z5, .ref z6, .ref z7, .ref z8, .ref z9, .int (nI j_98), .ref z11, .ref z12, .ref z13, .ref z14, .ref z15, .int (nI z16), .ref z17, .int z18, .ref z19]))] ++ va_pl L M_93) H_100.size q → A q := pg_free hDc hS hA
                          refine va_calli (va_runV (As := [.ref b23, .int (nI j_105), .int (nI j_107), .int k4, .int k5]) (rest := [.ref za]) ⟨hx, hb, hml, hown, hg⟩ (r_begins2 l D cy K L M_93 H_100.size za 0 z1 z2 z3 z4 z5 z6 z7 z8 z9 j_98 z11 z12 z13 z14 z15 z16 z17 z18 z19 b23 j_105 j_107 k4 k5  hW i1 b2 b3 i6 i7 i8 i9 c_99 i11 i12 i13 i14 i15 b16 i17 i19 hb_25 (by omega) (by omega) ⟨_, _, hM_95, hv51, by omega⟩ hV.2.2.2) (cwV 5 hg (gV wd_832 wd_833 wd_834 wd_717 wd_835) rfl rfl rfl (by decide +kernel) ⟨(Nat.le_trans (Nat.le_of_ble_eq_true rfl) hRf), (Nat.le_trans (Nat.le_of_ble_eq_true rfl) hRl)⟩) ⟨PG.blind, va_recv hK hP (ci := 13) (q0 := 0) rfl rfl, fun U hU hW => ⟨rfl, PG.at hPc hK hDc hN hU hW⟩⟩ rfl rfl hl.1 rfl (lv_room (Nat.le_of_ble_eq_true rfl)) dX13_join_223 ⟨(Nat.le_trans (Nat.le_of_ble_eq_true rfl) hRc), (Nat.le_trans (Nat.le_of_ble_eq_true rfl) hRs)⟩) hS (fun q _ h => hFc q h) hFc (fun r_110 M_111 t H_109 locs ht hvm hw hB hz1 hk1 hS => ?_)
                          have hWb := hW
                          obtain ⟨hW, hF2, hG2, hVP, hp_112⟩ := hw
                          obtain ⟨hP1, hD1⟩ := hB
                          rw [ht] at hP1
                          have hP : va_P D vwCl ([(za, .inr (13, [.int 0, .ref z1, .int (nI z2), .int (nI z3), .int z4, .int z5, .ref z6, .ref z7, .ref z8, .ref z9, .int (nI j_98), .ref z11, .ref z12, .ref z13, .ref z14, .ref z15, .int (nI z16), .ref z17, .int z18, .ref z19]))] ++ va_pl L M_111) H_109 := hP1
                          have hD : va_D A ([(za, .inr (13, [.int 0, .ref z1, .int (nI z2), .int (nI z3), .int z4, .int z5, .ref z6, .ref z7, .ref z8, .ref z9, .int (nI j_98), .ref z11, .ref z12, .ref z13, .ref z14, .ref z15, .int (nI z16), .ref z17, .int z18, .ref z19]))] ++ va_pl L M_111) := hD1.mono hFc
                          obtain ⟨fs113, hM113, hn113, hl113⟩ := hW.open_12 hb_25
                          have hv_114 : fs113[9]? = some (.ref v34 : Value) := (hG2 _ hb_25 _ _ hM_95 hM113 9 (by decide)).trans hv34
                          have hM_115 : M_111 z6 = .inl (cy 14, 40, .inl (f55)) := (hF2.at i6 (by decide)).trans hM_96
                          have hM_116 : M_111 z7 = .inl (cy 14, 40, .inl (f89)) := (hF2.at i7 (by decide)).trans hM_97
                          have hF : fr K L [12, 14, 16, 30, 31, 33, 34, 41, 42, 49, 50, 75, 76] M M_111 := hF.tr hF2 (by decide)
                          have hG : fG K L [10] M M_111 := hG.tr hWb hG2 (by decide)
                          obtain ⟨n_117, hn9, hlt9, hV2⟩ := hVP
                          rw [hV.2.1] at hn9
                          rw [hV.2.1, hV.2.2.1] at hV2
                          have hn9 : (fx M b23 10) = (n_117 : Int) := hn9
                          have hV : VW K L M M_111 b23 (va_up (fx M b23) 10 ((n_117 + 1 : Nat) : Int)) (va_up (va_up (va_up (va_up (va_up (va_up (va_up (va_up (ax M b23) 19 (upd (ax M b23 19) (nI n_117).toNatClampNeg (nI j_107))) 20 (upd (ax M b23 20) (nI n_117).toNatClampNeg (nI j_105))) 21 (upd (ax M b23 21) (nI n_117).toNatClampNeg k4)) 22 (upd (ax M b23 22) (nI n_117).toNatClampNeg (-1))) 23 (upd (ax M b23 23) (nI n_117).toNatClampNeg 0)) 24 (upd (ax M b23 24) (nI n_117).toNatClampNeg 0)) 25 (upd (ax M b23 25) (nI n_117).toNatClampNeg (-1))) 9 (upd (ax M b23 9) (nI j_105).toNatClampNeg (nI (n_117 + 1)))) := hV.tr hV2
                          obtain ⟨j_118, rfl, c_119⟩ := hp_112
                          have hPc := hP.sub (ws' := [(za, .inr (13, [.int 0, .ref z1, .int (nI z2), .int (nI z3), .int z4, .int z5, .ref z6, .ref z7, .ref z8, .ref z9, .int (nI j_98), .ref z11, .ref z12, .ref z13, .ref z14, .ref z15, .int (nI z16), .ref z17, .int z18, .ref z19]))]) [0] rfl
                          have hDc := hD.sub (ws' := [(za, .inr (13, [.int 0, .ref z1, .int (nI z2), .int (nI z3), .int z4, .int z5, .ref z6, .ref z7, .ref z8, .ref z9, .int (nI j_98), .ref z11, .ref z12, .ref z13, .ref z14, .ref z15, .int (nI z16), .ref z17, .int z18, .ref z19]))]) [0] (by decide) rfl
                          have hKc := hK.sub (tys' := []) [] rfl
                          have hFc := va_free (wc := [(za, .inr (13, [.int 0, .ref z1, .int (nI z2), .int (nI z3), .int z4, .int z5, .ref z6, .ref z7, .ref z8, .ref z9, .int (nI j_98), .ref z11, .ref z12, .ref z13, .ref z14, .ref z15, .int (nI z16), .ref z17, .int z18, .ref z19]))]) hD hS hA [0] rfl
                          refine va_calli (va_runV (As := [.int (nI j_118)]) (rest := []) ⟨hx, hb, hml, hown, hg⟩ (m_done l D H_109.size za 0 z1 (nI z2) (nI z3) z4 z5 z6 z7 z8 z9 (nI j_98) z11 z12 z13 z14 z15 (nI z16) z17 z18 z19 (nI j_118)) (cwV 1 hg (gV wd_730 wd_731 wd_732 wd_717 wd_733) rfl rfl rfl (by decide +kernel) ⟨(Nat.le_trans (Nat.le_of_ble_eq_true rfl) hRf), (Nat.le_trans (Nat.le_of_ble_eq_true rfl) hRl)⟩) ⟨Pr.blind, va_recv hK hP (ci := 13) (q0 := 0) rfl rfl, fun U hU hW => ⟨rfl, Pr.at hPc hKc hDc hN hU hW⟩⟩ rfl rfl hl.1 rfl (lv_room (Nat.le_of_ble_eq_true rfl)) dX13_join_226 ⟨(Nat.le_trans (Nat.le_of_ble_eq_true rfl) hRc), (Nat.le_trans (Nat.le_of_ble_eq_true rfl) hRs)⟩) hS (fun q _ h => hFc q h) hFc (fun r_121 M_122 t H_120 locs ht hvm hw hB hz1 hk1 hS => ?_)
                          have hp_123 := hw
                          obtain ⟨hP1, hK1, hD1⟩ := hB
                          rw [ht] at hP1
                          obtain ⟨hP, hD⟩ := va_joinQ (X := [(za, .inr (13, [.int 0, .ref z1, .int (nI z2), .int (nI z3), .int z4, .int z5, .ref z6, .ref z7, .ref z8, .ref z9, .int (nI j_98), .ref z11, .ref z12, .ref z13, .ref z14, .ref z15, .int (nI z16), .ref z17, .int z18, .ref z19]))]) (cx := [(za, .inr (13, [.int 0, .ref z1, .int (nI z2), .int (nI z3), .int z4, .int z5, .ref z6, .ref z7, .ref z8, .ref z9, .int (nI j_98), .ref z11, .ref z12, .ref z13, .ref z14, .ref z15, .int (nI z16), .ref z17, .int z18, .ref z19]))]) (wr := []) (w1 := [(za, .inr (13, [.int 0, .ref z1, .int (nI z2), .int (nI z3), .int 0, .int (-1), .ref z6, .ref z7, .ref z8, .ref z9, .int (nI j_98), .ref z11, .ref z12, .ref z13, .ref z14, .ref z15, .int (nI z16), .ref z17, .int z18, .ref z19]))]) (pl := va_pl L M_111) hP hD [0] [] rfl rfl (by decide) (by decide) hk1 hFc hP1 hD1
                          have hP : va_P D vwCl ([(za, .inr (13, [.int 0, .ref z1, .int (nI z2), .int (nI z3), .int 0, .int (-1), .ref z6, .ref z7, .ref z8, .ref z9, .int (nI j_98), .ref z11, .ref z12, .ref z13, .ref z14, .ref z15, .int (nI z16), .ref z17, .int z18, .ref z19]))] ++ va_pl L M_111) H_120 := hP
                          have hD : va_D A ([(za, .inr (13, [.int 0, .ref z1, .int (nI z2), .int (nI z3), .int 0, .int (-1), .ref z6, .ref z7, .ref z8, .ref z9, .int (nI j_98), .ref z11, .ref z12, .ref z13, .ref z14, .ref z15, .int (nI z16), .ref z17, .int z18, .ref z19]))] ++ va_pl L M_111) := hD
                          have hq := Eq.symm hp_123
                          subst hq
                          have hA9 : HA (ax M b23 2) (ax M b23 3) := hAT.1
                          have hB9 : HB (fx M b23 16) (fx M b23 14) (ax M b23 3) (ax M b23 43) := hAT.2.1
                          have hC9 : HC ((n_117 + 1 : Nat) : Int) (upd (ax M b23 22) (nI n_117).toNatClampNeg (-1)) (upd (ax M b23 23) (nI n_117).toNatClampNeg 0) := HC.beg hAT.2.2.1 hn9 (by omega) (nI_cl (by omega))
                          have hD9 : HD (fx M b23 0) (fx M b23 11) (fx M b23 15) (ax M b23 34) (ax M b23 41) := hAT.2.2.2.1
                          have hE9 : HE (fx M b23 0) (fx M b23 1) (fx M b23 12) (fx M b23 13) (ax M b23 37) := hAT.2.2.2.2
                          have hH9 : HI (va_up (fx M b23) 10 ((n_117 + 1 : Nat) : Int)) (va_up (va_up (va_up (va_up (va_up (va_up (va_up (va_up (ax M b23) 19 (upd (ax M b23 19) (nI n_117).toNatClampNeg (nI j_107))) 20 (upd (ax M b23 20) (nI n_117).toNatClampNeg (nI j_105))) 21 (upd (ax M b23 21) (nI n_117).toNatClampNeg k4)) 22 (upd (ax M b23 22) (nI n_117).toNatClampNeg (-1))) 23 (upd (ax M b23 23) (nI n_117).toNatClampNeg 0)) 24 (upd (ax M b23 24) (nI n_117).toNatClampNeg 0)) 25 (upd (ax M b23 25) (nI n_117).toNatClampNeg (-1))) 9 (upd (ax M b23 9) (nI j_105).toNatClampNeg (nI (n_117 + 1)))) := ⟨hA9, hB9, hC9, hD9, hE9⟩
                          have hGI9 : GI K L z1 z2 M_111 := GI.fin hW0 i1 b2 hGI hact hV (hF.at i1 (by decide)) hH9
                          rw [hQ]
                          exact W.iret (v := (nI j_118)) hx hb hr (fun t ht hW9 => ⟨⟨(nI j_118), M_111, rfl, ⟨hW, hF, hG, hGI9, trivial⟩, ⟨0, (-1), j_98, (by omega), by rw [ht]; exact hP, hD⟩⟩, hS.F ht⟩) hS.2.2 dX13_join_229
                        · have hz := rfl (a := 0)
                          have n_124 : v51 = 24 := (iEQ (a := v51) (b := 24) (by omega) (by omega)).mp c_103
                          refine lv_aload_n hx hb dX13_join_206 rfl (lv_at hl 3 rfl) ?_
                          refine lv_bipush (v := 9) hx hb dX13_join_207 (by decide) ?_
                          have hPc := hP.sub (ws' := [(za, .inr (13, [.int 0, .ref z1, .int (nI z2), .int (nI z3), .int z4, .int z5, .ref z6, .ref z7, .ref z8, .ref z9, .int (nI j_98), .ref z11, .ref z12, .ref z13, .ref z14, .ref z15, .int (nI z16), .ref z17, .int z18, .ref z19]))]) [0] rfl
                          have hDc := hD.sub (ws' := [(za, .inr (13, [.int 0, .ref z1, .int (nI z2), .int (nI z3), .int z4, .int z5, .ref z6, .ref z7, .ref z8, .ref z9, .int (nI j_98), .ref z11, .ref z12, .ref z13, .ref z14, .ref z15, .int (nI z16), .ref z17, .int z18, .ref z19]))]) [0] (by decide) rfl
                          have hKc := hK.sub (tys' := []) [] rfl
                          have hFc := va_free (wc := [(za, .inr (13, [.int 0, .ref z1, .int (nI z2), .int (nI z3), .int z4, .int z5, .ref z6, .ref z7, .ref z8, .ref z9, .int (nI j_98), .ref z11, .ref z12, .ref z13, .ref z14, .ref z15, .int (nI z16), .ref z17, .int z18, .ref z19]))]) hD hS hA [0] rfl
                          refine va_calli (va_runV (As := [.int 9]) (rest := []) ⟨hx, hb, hml, hown, hg⟩ (m_refused l D H_100.size za 0 z1 (nI z2) (nI z3) z4 z5 z6 z7 z8 z9 (nI j_98) z11 z12 z13 z14 z15 (nI z16) z17 z18 z19 9) (cwV 1 hg (gV wd_725 wd_726 wd_727 wd_717 wd_728) rfl rfl rfl (by decide +kernel) ⟨(Nat.le_trans (Nat.le_of_ble_eq_true rfl) hRf), (Nat.le_trans (Nat.le_of_ble_eq_true rfl) hRl)⟩) ⟨Pr.blind, va_recv hK hP (ci := 13) (q0 := 0) rfl rfl, fun U hU hW => ⟨rfl, Pr.at hPc hKc hDc hN hU hW⟩⟩ rfl rfl hl.1 rfl (lv_room (Nat.le_of_ble_eq_true rfl)) dX13_join_209 ⟨(Nat.le_trans (Nat.le_of_ble_eq_true rfl) hRc), (Nat.le_trans (Nat.le_of_ble_eq_true rfl) hRs)⟩) hS (fun q _ h => hFc q h) hFc (fun r_126 M_127 t H_125 locs ht hvm hw hB hz1 hk1 hS => ?_)
                          have hp_128 := hw
                          obtain ⟨hP1, hK1, hD1⟩ := hB
                          rw [ht] at hP1
                          obtain ⟨hP, hD⟩ := va_joinQ (X := [(za, .inr (13, [.int 0, .ref z1, .int (nI z2), .int (nI z3), .int z4, .int z5, .ref z6, .ref z7, .ref z8, .ref z9, .int (nI j_98), .ref z11, .ref z12, .ref z13, .ref z14, .ref z15, .int (nI z16), .ref z17, .int z18, .ref z19]))]) (cx := [(za, .inr (13, [.int 0, .ref z1, .int (nI z2), .int (nI z3), .int z4, .int z5, .ref z6, .ref z7, .ref z8, .ref z9, .int (nI j_98), .ref z11, .ref z12, .ref z13, .ref z14, .ref z15, .int (nI z16), .ref z17, .int z18, .ref z19]))]) (wr := []) (w1 := [(za, .inr (13, [.int 0, .ref z1, .int (nI z2), .int (nI z3), .int 9, .int (-1), .ref z6, .ref z7, .ref z8, .ref z9, .int (nI j_98), .ref z11, .ref z12, .ref z13, .ref z14, .ref z15, .int (nI z16), .ref z17, .int z18, .ref z19]))]) (pl := va_pl L M_93) hP hD [0] [] rfl rfl (by decide) (by decide) hk1 hFc hP1 hD1
                          have hP : va_P D vwCl ([(za, .inr (13, [.int 0, .ref z1, .int (nI z2), .int (nI z3), .int 9, .int (-1), .ref z6, .ref z7, .ref z8, .ref z9, .int (nI j_98), .ref z11, .ref z12, .ref z13, .ref z14, .ref z15, .int (nI z16), .ref z17, .int z18, .ref z19]))] ++ va_pl L M_93) H_125 := hP
                          have hD : va_D A ([(za, .inr (13, [.int 0, .ref z1, .int (nI z2), .int (nI z3), .int 9, .int (-1), .ref z6, .ref z7, .ref z8, .ref z9, .int (nI j_98), .ref z11, .ref z12, .ref z13, .ref z14, .ref z15, .int (nI z16), .ref z17, .int z18, .ref z19]))] ++ va_pl L M_93) := hD
                          have hq := Eq.symm hp_128
                          subst hq
                          have hA9 : HA (ax M b23 2) (ax M b23 3) := hAT.1
                          have hB9 : HB (fx M b23 16) (fx M b23 14) (ax M b23 3) (ax M b23 43) := hAT.2.1
                          have hC9 : HC (fx M b23 10) (ax M b23 22) (ax M b23 23) := hAT.2.2.1
                          have hD9 : HD (fx M b23 0) (fx M b23 11) (fx M b23 15) (ax M b23 34) (ax M b23 41) := hAT.2.2.2.1
                          have hE9 : HE (fx M b23 0) (fx M b23 1) (fx M b23 12) (fx M b23 13) (ax M b23 37) := hAT.2.2.2.2
                          have hH9 : HI (fx M b23) (ax M b23) := ⟨hA9, hB9, hC9, hD9, hE9⟩
                          have hGI9 : GI K L z1 z2 M_93 := GI.fin hW0 i1 b2 hGI hact hV (hF.at i1 (by decide)) hH9
                          rw [hQ]
                          exact W.iret (v := (-1)) hx hb hr (fun t ht hW9 => ⟨⟨(-1), M_93, rfl, ⟨hW, hF, hG, hGI9, trivial⟩, ⟨9, (-1), j_98, (by omega), by rw [ht]; exact hP, hD⟩⟩, hS.F ht⟩) hS.2.2 dX13_join_212
                      · have hz := rfl (a := 0)
                        have n_129 : ¬ (j_98 ≤ 0) := fun q => c_101 ((iLE (a := j_98) (b := 0) (by omega) (by omega)).mpr q)
                        refine lv_aload_n hx hb dX13_join_189 rfl (lv_at hl 3 rfl) ?_
                        refine lv_bipush (v := 8) hx hb dX13_join_190 (by decide) ?_
                        have hPc := hP.sub (ws' := [(za, .inr (13, [.int 0, .ref z1, .int (nI z2), .int (nI z3), .int z4, .int z5, .ref z6, .ref z7, .ref z8, .ref z9, .int (nI j_98), .ref z11, .ref z12, .ref z13, .ref z14, .ref z15, .int (nI z16), .ref z17, .int z18, .ref z19]))]) [0] rfl
                        have hDc := hD.sub (ws' := [(za, .inr (13, [.int 0, .ref z1, .int (nI z2), .int (nI z3), .int z4, .int z5, .ref z6, .ref z7, .ref z8, .ref z9, .int (nI j_98), .ref z11, .ref z12, .ref z13, .ref z14, .ref z15, .int (nI z16), .ref z17, .int z18, .ref z19]))]) [0] (by decide) rfl
                        have hKc := hK.sub (tys' := []) [] rfl
                        have hFc := va_free (wc := [(za, .inr (13, [.int 0, .ref z1, .int (nI z2), .int (nI z3), .int z4, .int z5, .ref z6, .ref z7, .ref z8, .ref z9, .int (nI j_98), .ref z11, .ref z12, .ref z13, .ref z14, .ref z15, .int (nI z16), .ref z17, .int z18, .ref z19]))]) hD hS hA [0] rfl
                        refine va_calli (va_runV (As := [.int 8]) (rest := []) ⟨hx, hb, hml, hown, hg⟩ (m_refused l D H_100.size za 0 z1 (nI z2) (nI z3) z4 z5 z6 z7 z8 z9 (nI j_98) z11 z12 z13 z14 z15 (nI z16) z17 z18 z19 8) (cwV 1 hg (gV wd_725 wd_726 wd_727 wd_717 wd_728) rfl rfl rfl (by decide +kernel) ⟨(Nat.le_trans (Nat.le_of_ble_eq_true rfl) hRf), (Nat.le_trans (Nat.le_of_ble_eq_true rfl) hRl)⟩) ⟨Pr.blind, va_recv hK hP (ci := 13) (q0 := 0) rfl rfl, fun U hU hW => ⟨rfl, Pr.at hPc hKc hDc hN hU hW⟩⟩ rfl rfl hl.1 rfl (lv_room (Nat.le_of_ble_eq_true rfl)) dX13_join_192 ⟨(Nat.le_trans (Nat.le_of_ble_eq_true rfl) hRc), (Nat.le_trans (Nat.le_of_ble_eq_true rfl) hRs)⟩) hS (fun q _ h => hFc q h) hFc (fun r_131 M_132 t H_130 locs ht hvm hw hB hz1 hk1 hS => ?_)
                        have hp_133 := hw
                        obtain ⟨hP1, hK1, hD1⟩ := hB
                        rw [ht] at hP1
                        obtain ⟨hP, hD⟩ := va_joinQ (X := [(za, .inr (13, [.int 0, .ref z1, .int (nI z2), .int (nI z3), .int z4, .int z5, .ref z6, .ref z7, .ref z8, .ref z9, .int (nI j_98), .ref z11, .ref z12, .ref z13, .ref z14, .ref z15, .int (nI z16), .ref z17, .int z18, .ref z19]))]) (cx := [(za, .inr (13, [.int 0, .ref z1, .int (nI z2), .int (nI z3), .int z4, .int z5, .ref z6, .ref z7, .ref z8, .ref z9, .int (nI j_98), .ref z11, .ref z12, .ref z13, .ref z14, .ref z15, .int (nI z16), .ref z17, .int z18, .ref z19]))]) (wr := []) (w1 := [(za, .inr (13, [.int 0, .ref z1, .int (nI z2), .int (nI z3), .int 8, .int (-1), .ref z6, .ref z7, .ref z8, .ref z9, .int (nI j_98), .ref z11, .ref z12, .ref z13, .ref z14, .ref z15, .int (nI z16), .ref z17, .int z18, .ref z19]))]) (pl := va_pl L M_93) hP hD [0] [] rfl rfl (by decide) (by decide) hk1 hFc hP1 hD1
                        have hP : va_P D vwCl ([(za, .inr (13, [.int 0, .ref z1, .int (nI z2), .int (nI z3), .int 8, .int (-1), .ref z6, .ref z7, .ref z8, .ref z9, .int (nI j_98), .ref z11, .ref z12, .ref z13, .ref z14, .ref z15, .int (nI z16), .ref z17, .int z18, .ref z19]))] ++ va_pl L M_93) H_130 := hP
                        have hD : va_D A ([(za, .inr (13, [.int 0, .ref z1, .int (nI z2), .int (nI z3), .int 8, .int (-1), .ref z6, .ref z7, .ref z8, .ref z9, .int (nI j_98), .ref z11, .ref z12, .ref z13, .ref z14, .ref z15, .int (nI z16), .ref z17, .int z18, .ref z19]))] ++ va_pl L M_93) := hD
                        have hq := Eq.symm hp_133
                        subst hq
                        have hA9 : HA (ax M b23 2) (ax M b23 3) := hAT.1
                        have hB9 : HB (fx M b23 16) (fx M b23 14) (ax M b23 3) (ax M b23 43) := hAT.2.1
                        have hC9 : HC (fx M b23 10) (ax M b23 22) (ax M b23 23) := hAT.2.2.1
                        have hD9 : HD (fx M b23 0) (fx M b23 11) (fx M b23 15) (ax M b23 34) (ax M b23 41) := hAT.2.2.2.1
                        have hE9 : HE (fx M b23 0) (fx M b23 1) (fx M b23 12) (fx M b23 13) (ax M b23 37) := hAT.2.2.2.2
                        have hH9 : HI (fx M b23) (ax M b23) := ⟨hA9, hB9, hC9, hD9, hE9⟩
                        have hGI9 : GI K L z1 z2 M_93 := GI.fin hW0 i1 b2 hGI hact hV (hF.at i1 (by decide)) hH9
                        rw [hQ]
                        exact W.iret (v := (-1)) hx hb hr (fun t ht hW9 => ⟨⟨(-1), M_93, rfl, ⟨hW, hF, hG, hGI9, trivial⟩, ⟨8, (-1), j_98, (by omega), by rw [ht]; exact hP, hD⟩⟩, hS.F ht⟩) hS.2.2 dX13_join_195
                  · have hz := rfl (a := 0)
                    have n_134 : ¬ (v51 ≤ v8w45) := fun q => c_52 ((iLE (a := v51) (b := v8w45) (by omega) (by omega)).mpr q)
                    refine lv_iload hx hb dX13_join_91 (lv_at hl 1 rfl) ?_
                    refine lv_if_ne (tgt := 133) hx hb dX13_join_93 (by decide) (fun c_135 => absurd c_135 (by decide)) (fun _ => ?_)
                    refine lv_aload hx hb dX13_join_96 (lv_at hl 2 rfl) ?_
                    obtain ⟨v136, hv136, hc136⟩ : ∃ v : Nat, fs26[20]? = some (.ref v : Value) ∧ isk K L v 31 24 := hl26 20 (by decide)
                    refine pg_getN (D := D) (ci := 12) (v := .ref v136) (C := RX12) (T := TX12) (N := 51) hx hb hg inG12 hown hK hP hb_25.1 hM_50 rfl 20 (by decide) (hN.use (Cond.fieldLinkNest RX13 110 RX12 "where" "[I" RX13) 29 rfl rfl) (fun _ h9 => h9) hv136 dX13_join_98 ?_
                    refine lv_iload hx hb dX13_join_101 (lv_at hl 0 rfl) ?_
                    obtain ⟨f137, hM137, hf137⟩ := hW.open_31 hc136
                    have hi_138 : vp_in (nI v8w45) 24 := (inbN v8w45 24 (by omega) (by omega))
                    refine pg_iald hx hb hK hP hc136.1 0 hM137 rfl hi_138 dX13_join_103 ?_
                    have hp_139 := hf137 _ (vp_lt hi_138)
                    obtain ⟨c_140, hc_141, ec_142⟩ := hp_139
                    rw [ec_142]
                    refine lv_iload_n hx hb dX13_join_104 rfl (lv_at hl 5 rfl) ?_
                    refine lv_icmp_ne (tgt := 137) hx hb dX13_join_105 (by decide) (fun c_143 => ?_) (fun c_143 => ?_)
                    · have hz := rfl (a := 0)
                      refine lv_iconst (v := 0) hx hb dX13_join_137 (by decide) ?_
                      refine lv_istore (lv' := [(7, .int 0), (8, .int (nI v8w45)), (6, .ref b23), (0, .ref za), (1, .int (nI j_19)), (2, .int k2), (3, .int k3), (4, .int k4), (5, .int k5)]) hx hb dX13_join_138 hl (by decide) rfl (fun ls hl => ?_)
                      refine lv_iinc (v := (nI (v8w45 + 1))) (lv' := [(8, .int (nI (v8w45 + 1))), (7, .int 0), (6, .ref b23), (0, .ref za), (1, .int (nI j_19)), (2, .int k2), (3, .int k3), (4, .int k4), (5, .int k5)]) hx hb dX13_join_140 hl (k := 1) rfl (nI_1 v8w45) (by decide) rfl (fun ls hl => ?_)
                      refine lv_goto (tgt := 81) hx hb dX13_join_143 (by decide) ?_
                      exact ih_43 0 (v8w45 + 1) M_48 H_49 _ _ (by omega) (Or.inl rfl) hM_50 (by omega) hW hF hG hV hP hD hS (lv_sub hl [0, 1, 2, 3, 4, 5, 6, 7, 8] rfl)
                    · have hz := rfl (a := 0)
                      refine lv_aload hx hb dX13_join_108 (lv_at hl 2 rfl) ?_
                      obtain ⟨v144, hv144, hc144⟩ : ∃ v : Nat, fs26[22]? = some (.ref v : Value) ∧ isk K L v 41 24 := hl26 22 (by decide)
                      refine pg_getN (D := D) (ci := 12) (v := .ref v144) (C := RX12) (T := TX12) (N := 51) hx hb hg inG12 hown hK hP hb_25.1 hM_50 rfl 22 (by decide) (hN.use (Cond.fieldLinkNest RX13 95 RX12 "ended" "[I" RX13) 31 rfl rfl) (fun _ h9 => h9) hv144 dX13_join_110 ?_
                      refine lv_iload hx hb dX13_join_113 (lv_at hl 0 rfl) ?_
                      obtain ⟨f145, hM145⟩ := hW.open_41 hc144
                      refine pg_iald hx hb hK hP hc144.1 0 hM145 rfl (inbN v8w45 24 (by omega) (by omega)) dX13_join_115 ?_
                      refine lv_topi (fun f_146 ef_146 => ?_)
                      refine lv_iconst (v := (-1)) hx hb dX13_join_116 (by decide) ?_
                      refine lv_icmp_eq (tgt := 133) hx hb dX13_join_117 (by decide) (fun c_147 => ?_) (fun c_147 => ?_)
                      · have hz := rfl (a := 0)
                        refine lv_iconst (v := 1) hx hb dX13_join_133 (by decide) ?_
                        refine lv_goto (tgt := 138) hx hb dX13_join_134 (by decide) ?_
                        refine lv_istore (lv' := [(7, .int 1), (8, .int (nI v8w45)), (6, .ref b23), (0, .ref za), (1, .int (nI j_19)), (2, .int k2), (3, .int k3), (4, .int k4), (5, .int k5)]) hx hb dX13_join_138 hl (by decide) rfl (fun ls hl => ?_)
                        refine lv_iinc (v := (nI (v8w45 + 1))) (lv' := [(8, .int (nI (v8w45 + 1))), (7, .int 1), (6, .ref b23), (0, .ref za), (1, .int (nI j_19)), (2, .int k2), (3, .int k3), (4, .int k4), (5, .int k5)]) hx hb dX13_join_140 hl (k := 1) rfl (nI_1 v8w45) (by decide) rfl (fun ls hl => ?_)
                        refine lv_goto (tgt := 81) hx hb dX13_join_143 (by decide) ?_
                        exact ih_43 1 (v8w45 + 1) M_48 H_49 _ _ (by omega) (Or.inr rfl) hM_50 (by omega) hW hF hG hV hP hD hS (lv_sub hl [0, 1, 2, 3, 4, 5, 6, 7, 8] rfl)
                      · have hz := rfl (a := 0)
                        refine lv_aload hx hb dX13_join_120 (lv_at hl 2 rfl) ?_
                        refine pg_getN (D := D) (ci := 12) (v := .ref v144) (C := RX12) (T := TX12) (N := 51) hx hb hg inG12 hown hK hP hb_25.1 hM_50 rfl 22 (by decide) (hN.use (Cond.fieldLinkNest RX13 95 RX12 "ended" "[I" RX13) 31 rfl rfl) (fun _ h9 => h9) hv144 dX13_join_122 ?_
                        refine lv_iload hx hb dX13_join_125 (lv_at hl 0 rfl) ?_
                        refine pg_iald hx hb hK hP hc144.1 0 hM145 rfl (inbN v8w45 24 (by omega) (by omega)) dX13_join_127 ?_
                        refine lv_topi (fun f_148 ef_148 => ?_)
                        refine lv_iload hx hb dX13_join_128 (lv_at hl 7 rfl) ?_
                        refine lv_icmp_le (tgt := 137) hx hb dX13_join_130 (by decide) (fun c_149 => ?_) (fun c_149 => ?_)
                        · have hz := rfl (a := 0)
                          refine lv_iconst (v := 0) hx hb dX13_join_137 (by decide) ?_
                          refine lv_istore (lv' := [(7, .int 0), (8, .int (nI v8w45)), (6, .ref b23), (0, .ref za), (1, .int (nI j_19)), (2, .int k2), (3, .int k3), (4, .int k4), (5, .int k5)]) hx hb dX13_join_138 hl (by decide) rfl (fun ls hl => ?_)
                          refine lv_iinc (v := (nI (v8w45 + 1))) (lv' := [(8, .int (nI (v8w45 + 1))), (7, .int 0), (6, .ref b23), (0, .ref za), (1, .int (nI j_19)), (2, .int k2), (3, .int k3), (4, .int k4), (5, .int k5)]) hx hb dX13_join_140 hl (k := 1) rfl (nI_1 v8w45) (by decide) rfl (fun ls hl => ?_)
                          refine lv_goto (tgt := 81) hx hb dX13_join_143 (by decide) ?_
                          exact ih_43 0 (v8w45 + 1) M_48 H_49 _ _ (by omega) (Or.inl rfl) hM_50 (by omega) hW hF hG hV hP hD hS (lv_sub hl [0, 1, 2, 3, 4, 5, 6, 7, 8] rfl)
                        · have hz := rfl (a := 0)
                          refine lv_iconst (v := 1) hx hb dX13_join_133 (by decide) ?_
                          refine lv_goto (tgt := 138) hx hb dX13_join_134 (by decide) ?_
                          refine lv_istore (lv' := [(7, .int 1), (8, .int (nI v8w45)), (6, .ref b23), (0, .ref za), (1, .int (nI j_19)), (2, .int k2), (3, .int k3), (4, .int k4), (5, .int k5)]) hx hb dX13_join_138 hl (by decide) rfl (fun ls hl => ?_)
                          refine lv_iinc (v := (nI (v8w45 + 1))) (lv' := [(8, .int (nI (v8w45 + 1))), (7, .int 1), (6, .ref b23), (0, .ref za), (1, .int (nI j_19)), (2, .int k2), (3, .int k3), (4, .int k4), (5, .int k5)]) hx hb dX13_join_140 hl (k := 1) rfl (nI_1 v8w45) (by decide) rfl (fun ls hl => ?_)
                          refine lv_goto (tgt := 81) hx hb dX13_join_143 (by decide) ?_
                          exact ih_43 1 (v8w45 + 1) M_48 H_49 _ _ (by omega) (Or.inr rfl) hM_50 (by omega) hW hF hG hV hP hD hS (lv_sub hl [0, 1, 2, 3, 4, 5, 6, 7, 8] rfl)
                · have hz := rfl (a := 0)
                  refine lv_iload hx hb dX13_join_81 (lv_at hl 0 rfl) ?_
                  refine lv_aload hx hb dX13_join_83 (lv_at hl 2 rfl) ?_
                  obtain ⟨v150, hv150, hc150⟩ : ∃ v : Nat, fs26[10]? = some (.int (nI v) : Value) ∧ v ≤ 24 := hl26 10 (by decide)
                  refine pg_getN (D := D) (ci := 12) (v := .int (nI v150)) (C := RX12) (T := TX12) (N := 51) hx hb hg inG12 hown hK hP hb_25.1 hM_50 rfl 10 (by decide) (hN.use (Cond.fieldLinkNest RX13 68 RX12 "tenures" "I" RX13) 19 rfl rfl) (fun _ h9 => h9) hv150 dX13_join_85 ?_
                  refine lv_icmp_ge (tgt := 146) hx hb dX13_join_88 (by decide) (fun c_151 => ?_) (fun c_151 => ?_)
                  · have hz := rfl (a := 0)
                    have n_152 : v150 ≤ v8w45 := (iLE (a := v150) (b := v8w45) (by omega) (by omega)).mp c_151
                    refine lv_iload hx hb dX13_join_146 (lv_at hl 1 rfl) ?_
                    refine lv_if_eq (tgt := 157) hx hb dX13_join_148 (by decide) (fun c_153 => absurd c_153 (by decide)) (fun _ => ?_)
                    refine lv_aload_n hx hb dX13_join_151 rfl (lv_at hl 3 rfl) ?_
                    refine lv_iconst (v := 4) hx hb dX13_join_152 (by decide) ?_
                    have hPc := hP.sub (ws' := [(za, .inr (13, [.int 0, .ref z1, .int (nI z2), .int (nI z3), .int z4, .int z5, .ref z6, .ref z7, .ref z8, .ref z9, .int (nI 0), .ref z11, .ref z12, .ref z13, .ref z14, .ref z15, .int (nI z16), .ref z17, .int z18, .ref z19]))]) [0] rfl
                    have hDc := hD.sub (ws' := [(za, .inr (13, [.int 0, .ref z1, .int (nI z2), .int (nI z3), .int z4, .int z5, .ref z6, .ref z7, .ref z8, .ref z9, .int (nI 0), .ref z11, .ref z12, .ref z13, .ref z14, .ref z15, .int (nI z16), .ref z17, .int z18, .ref z19]))]) [0] (by decide) rfl
                    have hKc := hK.sub (tys' := []) [] rfl
                    have hFc := va_free (wc := [(za, .inr (13, [.int 0, .ref z1, .int (nI z2), .int (nI z3), .int z4, .int z5, .ref z6, .ref z7, .ref z8, .ref z9, .int (nI 0), .ref z11, .ref z12, .ref z13, .ref z14, .ref z15, .int (nI z16), .ref z17, .int z18, .ref z19]))]) hD hS hA [0] rfl
                    refine va_calli (va_runV (As := [.int 4]) (rest := []) ⟨hx, hb, hml, hown, hg⟩ (m_refused l D H_49.size za 0 z1 (nI z2) (nI z3) z4 z5 z6 z7 z8 z9 (nI 0) z11 z12 z13 z14 z15 (nI z16) z17 z18 z19 4) (cwV 1 hg (gV wd_725 wd_726 wd_727 wd_717 wd_728) rfl rfl rfl (by decide +kernel) ⟨(Nat.le_trans (Nat.le_of_ble_eq_true rfl) hRf), (Nat.le_trans (Nat.le_of_ble_eq_true rfl) hRl)⟩) ⟨Pr.blind, va_recv hK hP (ci := 13) (q0 := 0) rfl rfl, fun U hU hW => ⟨rfl, Pr.at hPc hKc hDc hN hU hW⟩⟩ rfl rfl hl.1 rfl (lv_room (Nat.le_of_ble_eq_true rfl)) dX13_join_153 ⟨(Nat.le_trans (Nat.le_of_ble_eq_true rfl) hRc), (Nat.le_trans (Nat.le_of_ble_eq_true rfl) hRs)⟩) hS (fun q _ h => hFc q h) hFc (fun r_155 M_156 t H_154 locs ht hvm hw hB hz1 hk1 hS => ?_)
                    have hp_157 := hw
                    obtain ⟨hP1, hK1, hD1⟩ := hB
                    rw [ht] at hP1
                    obtain ⟨hP, hD⟩ := va_joinQ (X := [(za, .inr (13, [.int 0, .ref z1, .int (nI z2), .int (nI z3), .int z4, .int z5, .ref z6, .ref z7, .ref z8, .ref z9, .int (nI 0), .ref z11, .ref z12, .ref z13, .ref z14, .ref z15, .int (nI z16), .ref z17, .int z18, .ref z19]))]) (cx := [(za, .inr (13, [.int 0, .ref z1, .int (nI z2), .int (nI z3), .int z4, .int z5, .ref z6, .ref z7, .ref z8, .ref z9, .int (nI 0), .ref z11, .ref z12, .ref z13, .ref z14, .ref z15, .int (nI z16), .ref z17, .int z18, .ref z19]))]) (wr := []) (w1 := [(za, .inr (13, [.int 0, .ref z1, .int (nI z2), .int (nI z3), .int 4, .int (-1), .ref z6, .ref z7, .ref z8, .ref z9, .int (nI 0), .ref z11, .ref z12, .ref z13, .ref z14, .ref z15, .int (nI z16), .ref z17, .int z18, .ref z19]))]) (pl := va_pl L M_48) hP hD [0] [] rfl rfl (by decide) (by decide) hk1 hFc hP1 hD1
                    have hP : va_P D vwCl ([(za, .inr (13, [.int 0, .ref z1, .int (nI z2), .int (nI z3), .int 4, .int (-1), .ref z6, .ref z7, .ref z8, .ref z9, .int (nI 0), .ref z11, .ref z12, .ref z13, .ref z14, .ref z15, .int (nI z16), .ref z17, .int z18, .ref z19]))] ++ va_pl L M_48) H_154 := hP
                    have hD : va_D A ([(za, .inr (13, [.int 0, .ref z1, .int (nI z2), .int (nI z3), .int 4, .int (-1), .ref z6, .ref z7, .ref z8, .ref z9, .int (nI 0), .ref z11, .ref z12, .ref z13, .ref z14, .ref z15, .int (nI z16), .ref z17, .int z18, .ref z19]))] ++ va_pl L M_48) := hD
                    have hq := Eq.symm hp_157
                    subst hq
                    have hA9 : HA (ax M b23 2) (ax M b23 3) := hAT.1
                    have hB9 : HB (fx M b23 16) (fx M b23 14) (ax M b23 3) (ax M b23 43) := hAT.2.1
                    have hC9 : HC (fx M b23 10) (ax M b23 22) (ax M b23 23) := hAT.2.2.1
                    have hD9 : HD (fx M b23 0) (fx M b23 11) (fx M b23 15) (ax M b23 34) (ax M b23 41) := hAT.2.2.2.1
                    have hE9 : HE (fx M b23 0) (fx M b23 1) (fx M b23 12) (fx M b23 13) (ax M b23 37) := hAT.2.2.2.2
                    have hH9 : HI (fx M b23) (ax M b23) := ⟨hA9, hB9, hC9, hD9, hE9⟩
                    have hGI9 : GI K L z1 z2 M_48 := GI.fin hW0 i1 b2 hGI hact hV (hF.at i1 (by decide)) hH9
                    rw [hQ]
                    exact W.iret (v := (-1)) hx hb hr (fun t ht hW9 => ⟨⟨(-1), M_48, rfl, ⟨hW, hF, hG, hGI9, trivial⟩, ⟨4, (-1), 0, (by omega), by rw [ht]; exact hP, hD⟩⟩, hS.F ht⟩) hS.2.2 dX13_join_156
                  · have hz := rfl (a := 0)
                    have n_158 : ¬ (v150 ≤ v8w45) := fun q => c_151 ((iLE (a := v150) (b := v8w45) (by omega) (by omega)).mpr q)
                    refine lv_iload hx hb dX13_join_91 (lv_at hl 1 rfl) ?_
                    refine lv_if_ne (tgt := 133) hx hb dX13_join_93 (by decide) (fun _ => ?_) (fun c_159 => absurd c_159 (by decide))
                    refine lv_iconst (v := 1) hx hb dX13_join_133 (by decide) ?_
                    refine lv_goto (tgt := 138) hx hb dX13_join_134 (by decide) ?_
                    refine lv_istore (lv' := [(7, .int 1), (8, .int (nI v8w45)), (6, .ref b23), (0, .ref za), (1, .int (nI j_19)), (2, .int k2), (3, .int k3), (4, .int k4), (5, .int k5)]) hx hb dX13_join_138 hl (by decide) rfl (fun ls hl => ?_)
                    refine lv_iinc (v := (nI (v8w45 + 1))) (lv' := [(8, .int (nI (v8w45 + 1))), (7, .int 1), (6, .ref b23), (0, .ref za), (1, .int (nI j_19)), (2, .int k2), (3, .int k3), (4, .int k4), (5, .int k5)]) hx hb dX13_join_140 hl (k := 1) rfl (nI_1 v8w45) (by decide) rfl (fun ls hl => ?_)
                    refine lv_goto (tgt := 81) hx hb dX13_join_143 (by decide) ?_
                    exact ih_43 1 (v8w45 + 1) M_48 H_49 _ _ (by omega) (Or.inr rfl) hM_50 (by omega) hW hF hG hV hP hD hS (lv_sub hl [0, 1, 2, 3, 4, 5, 6, 7, 8] rfl)
            exact key_42 (24 - 0 + 1) 0 0 M H_27 _ _ (by omega) (Or.inl rfl) hM26 (by omega) hW hF hG hV hP hD hS (lv_sub hl [0, 1, 2, 3, 4, 5, 6, 7, 8] rfl)
          · have hz := rfl (a := 0)
            refine lv_iconst (v := 1) hx hb dX13_join_71 (by decide) ?_
            refine lv_goto (tgt := 76) hx hb dX13_join_72 (by decide) ?_
            refine lv_istore (lv' := [(7, .int 1), (6, .ref b23), (0, .ref za), (1, .int (nI j_19)), (2, .int k2), (3, .int k3), (4, .int k4), (5, .int k5)]) hx hb dX13_join_76 hl (by decide) rfl (fun ls hl => ?_)
            refine lv_iconst (v := 0) hx hb dX13_join_78 (by decide) ?_
            refine lv_istore (lv' := [(8, .int 0), (7, .int 1), (6, .ref b23), (0, .ref za), (1, .int (nI j_19)), (2, .int k2), (3, .int k3), (4, .int k4), (5, .int k5)]) hx hb dX13_join_79 hl (by decide) rfl (fun ls hl => ?_)
            have key_160 : ∀ (fu_162 : Nat) (v7w163 : Int32) (v8w163 : Nat) (M_166 : Hp) (H_167 : Heap) (locs : List Loc) (ls : Array Slot), 24 - v8w163 < fu_162 → (v7w163 = 0 ∨ v7w163 = 1) → M_166 b23 = .inr (12, fs26) → v8w163 ≤ 24 → WOM cy K L M_166 → fr K L [12, 14, 16, 30, 31, 33, 34, 41, 42, 49, 50, 75, 76] M M_166 → fG K L [10] M M_166 → VW K L M M_166 b23 (fx M b23) (ax M b23) → va_P D vwCl ([(za, .inr (13, [.int 0, .ref z1, .int (nI z2), .int (nI z3), .int z4, .int z5, .ref z6, .ref z7, .ref z8, .ref z9, .int (nI 0), .ref z11, .ref z12, .ref z13, .ref z14, .ref z15, .int (nI z16), .ref z17, .int z18, .ref z19]))] ++ va_pl L M_166) H_167 → va_D A ([(za, .inr (13, [.int 0, .ref z1, .int (nI z2), .int (nI z3), .int z4, .int z5, .ref z6, .ref z7, .ref z8, .ref z9, .int (nI 0), .ref z11, .ref z12, .ref z13, .ref z14, .ref z15, .int (nI z16), .ref z17, .int z18, .ref z19]))] ++ va_pl L M_166) → va_S A s.heap H_167 locs → lv_has ls 9 [(8, .int (nI v8w163)), (7, .int v7w163), (6, .ref b23), (0, .ref za), (1, .int (nI j_19)), (2, .int k2), (3, .int k3), (4, .int k4), (5, .int k5)] → W p l e R s m ([.ref za, .int (nI j_19), .int k2, .int k3, .int k4, .int k5] : List Value).toArray below meth c H_167 locs 0 0 Q (F0 m 81 ls []) := by
              intro fu_162
              induction fu_162 with
              | zero => intro v7w163 v8w163 M_166 H_167 locs ls h; exact absurd h (Nat.not_lt_zero _)
              | succ fu_162 ih_161 =>
                intro v7w163 v8w163 M_166 H_167 locs ls hfu hq_164 hM_168 hx_165 hW hF hG hV hP hD hS hl
                rcases hq_164 with rfl | rfl
                · have hz := rfl (a := 0)
                  refine lv_iload hx hb dX13_join_81 (lv_at hl 0 rfl) ?_
                  refine lv_aload hx hb dX13_join_83 (lv_at hl 2 rfl) ?_
                  obtain ⟨v169, hv169, hc169⟩ : ∃ v : Nat, fs26[10]? = some (.int (nI v) : Value) ∧ v ≤ 24 := hl26 10 (by decide)
                  refine pg_getN (D := D) (ci := 12) (v := .int (nI v169)) (C := RX12) (T := TX12) (N := 51) hx hb hg inG12 hown hK hP hb_25.1 hM_168 rfl 10 (by decide) (hN.use (Cond.fieldLinkNest RX13 68 RX12 "tenures" "I" RX13) 19 rfl rfl) (fun _ h9 => h9) hv169 dX13_join_85 ?_
                  refine lv_icmp_ge (tgt := 146) hx hb dX13_join_88 (by decide) (fun c_170 => ?_) (fun c_170 => ?_)
                  · have hz := rfl (a := 0)
                    have n_171 : v169 ≤ v8w163 := (iLE (a := v169) (b := v8w163) (by omega) (by omega)).mp c_170
                    refine lv_iload hx hb dX13_join_146 (lv_at hl 1 rfl) ?_
                    refine lv_if_eq (tgt := 157) hx hb dX13_join_148 (by decide) (fun _ => ?_) (fun c_172 => absurd c_172 (by decide))
                    refine lv_aload_n hx hb dX13_join_157 rfl (lv_at hl 3 rfl) ?_
                    refine va_get (D := D) (ci := 13) (v := .ref z6) (C := RX13) (T := TX13) (N := 20) hx hb hg inG13 hown hK hP 0 rfl rfl 6 (by decide) (hg _ wd_719) (fun _ h9 => h9) rfl dX13_join_158 ?_
                    refine lv_iload_n hx hb dX13_join_161 rfl (lv_at hl 6 rfl) ?_
                    obtain ⟨f173, hM173, hf173⟩ := hW.open_47 i6
                    have hi_174 : vp_in k3 40 := (inb k3 40 (by omega) c_12 n_18)
                    refine pg_iald hx hb hK hP i6.1 0 hM173 rfl hi_174 dX13_join_162 ?_
                    have hp_175 := hf173 _ (vp_lt hi_174)
                    obtain ⟨c_176, hc_177, ec_178⟩ := hp_175
                    rw [ec_178]
                    refine lv_iconst (v := 5) hx hb dX13_join_163 (by decide) ?_
                    refine lv_icmp_ne (tgt := 196) hx hb dX13_join_164 (by decide) (fun c_179 => ?_) (fun c_179 => ?_)
                    · have hz := rfl (a := 0)
                      have n_180 : ¬ (c_176 = 5) := fun q => c_179 ((iEQ (a := c_176) (b := 5) (by omega) (by omega)).mpr q)
                      refine lv_aload hx hb dX13_join_196 (lv_at hl 2 rfl) ?_
                      refine pg_getN (D := D) (ci := 12) (v := .int (nI v169)) (C := RX12) (T := TX12) (N := 51) hx hb hg inG12 hown hK hP hb_25.1 hM_168 rfl 10 (by decide) (hN.use (Cond.fieldLinkNest RX13 68 RX12 "tenures" "I" RX13) 19 rfl rfl) (fun _ h9 => h9) hv169 dX13_join_198 ?_
                      refine lv_bipush (v := 24) hx hb dX13_join_201 (by decide) ?_
                      refine lv_icmp_ne (tgt := 213) hx hb dX13_join_203 (by decide) (fun c_181 => ?_) (fun c_181 => ?_)
                      · have hz := rfl (a := 0)
                        have n_182 : ¬ (v169 = 24) := fun q => c_181 ((iEQ (a := v169) (b := 24) (by omega) (by omega)).mpr q)
                        refine lv_aload_n hx hb dX13_join_213 rfl (lv_at hl 3 rfl) ?_
                        refine lv_aload_n hx hb dX13_join_214 rfl (lv_at hl 3 rfl) ?_
                        refine lv_aload hx hb dX13_join_215 (lv_at hl 2 rfl) ?_
                        refine lv_iload_n hx hb dX13_join_217 rfl (lv_at hl 5 rfl) ?_
                        refine lv_iload_n hx hb dX13_join_218 rfl (lv_at hl 6 rfl) ?_
                        refine lv_iload hx hb dX13_join_219 (lv_at hl 7 rfl) ?_
                        refine lv_iload hx hb dX13_join_221 (lv_at hl 8 rfl) ?_
                        obtain ⟨j_183, hj_184, rfl⟩ := i32nat 6 (by decide) c_9 c_10
                        obtain ⟨j_185, hj_186, rfl⟩ := i32nat 40 (by decide) c_12 n_18
                        have hPc : va_P D vwCl ([(za, .inr (13, [.int 0, .ref z1, .int (nI z2), .int (nI z3), .int z4, .int z5, .ref z6, .ref z7, .ref z8, .ref z9, .int (nI 0), .ref z11, .ref z12, .ref z13, .ref z14, .ref z15, .int (nI z16), .ref z17, .int z18, .ref z19]))] ++ va_pl L M_166) H_167 := hP
                        have hDc : va_D A ([(za, .inr (13, [.int 0, .ref z1, .int (nI z2), .int (nI z3), .int z4, .int z5, .ref z6, .ref z7, .ref z8, .ref z9, .int (nI 0), .ref z11, .ref z12, .ref z13, .ref z14, .ref z15, .int (nI z16), .ref z17, .int z18, .ref z19]))] ++ va_pl L M_166) := hD
                        have hFc : ∀ q, va_A ([(za, .inr (13, [.int 0, .ref z1, .int (nI z2), .int (nI z3), .int z4, .int z5, .ref z6, .ref z7, .ref z8, .ref z9, .int (nI 0), .ref z11, .ref z12, .ref z13, .ref z14, .ref z15, .int (nI z16), .ref z17, .int z18, .ref z19]))] ++ va_pl L M_166) H_167.size q → A q := pg_free hDc hS hA
                        refine va_calli (va_runV (As := [.ref b23, .int (nI j_183), .int (nI j_185), .int k4, .int k5]) (rest := [.ref za]) ⟨hx, hb, hml, hown, hg⟩ (r_begins2 l D cy K L M_166 H_167.size za 0 z1 z2 z3 z4 z5 z6 z7 z8 z9 0 z11 z12 z13 z14 z15 z16 z17 z18 z19 b23 j_183 j_185 k4 k5  hW i1 b2 b3 i6 i7 i8 i9 (by omega) i11 i12 i13 i14 i15 b16 i17 i19 hb_25 (by omega) (by omega) ⟨_, _, hM_168, hv169, by omega⟩ hV.2.2.2) (cwV 5 hg (gV wd_832 wd_833 wd_834 wd_717 wd_835) rfl rfl rfl (by decide +kernel) ⟨(Nat.le_trans (Nat.le_of_ble_eq_true rfl) hRf), (Nat.le_trans (Nat.le_of_ble_eq_true rfl) hRl)⟩) ⟨PG.blind, va_recv hK hP (ci := 13) (q0 := 0) rfl rfl, fun U hU hW => ⟨rfl, PG.at hPc hK hDc hN hU hW⟩⟩ rfl rfl hl.1 rfl (lv_room (Nat.le_of_ble_eq_true rfl)) dX13_join_223 ⟨(Nat.le_trans (Nat.le_of_ble_eq_true rfl) hRc), (Nat.le_trans (Nat.le_of_ble_eq_true rfl) hRs)⟩) hS (fun q _ h => hFc q h) hFc (fun r_188 M_189 t H_187 locs ht hvm hw hB hz1 hk1 hS => ?_)
                        have hWb := hW
                        obtain ⟨hW, hF2, hG2, hVP, hp_190⟩ := hw
                        obtain ⟨hP1, hD1⟩ := hB
                        rw [ht] at hP1
                        have hP : va_P D vwCl ([(za, .inr (13, [.int 0, .ref z1, .int (nI z2), .int (nI z3), .int z4, .int z5, .ref z6, .ref z7, .ref z8, .ref z9, .int (nI 0), .ref z11, .ref z12, .ref z13, .ref z14, .ref z15, .int (nI z16), .ref z17, .int z18, .ref z19]))] ++ va_pl L M_189) H_187 := hP1
                        have hD : va_D A ([(za, .inr (13, [.int 0, .ref z1, .int (nI z2), .int (nI z3), .int z4, .int z5, .ref z6, .ref z7, .ref z8, .ref z9, .int (nI 0), .ref z11, .ref z12, .ref z13, .ref z14, .ref z15, .int (nI z16), .ref z17, .int z18, .ref z19]))] ++ va_pl L M_189) := hD1.mono hFc
                        obtain ⟨fs191, hM191, hn191, hl191⟩ := hW.open_12 hb_25
                        have hv_192 : fs191[9]? = some (.ref v34 : Value) := (hG2 _ hb_25 _ _ hM_168 hM191 9 (by decide)).trans hv34
                        have hM_193 : M_189 z6 = .inl (cy 14, 40, .inl (f173)) := (hF2.at i6 (by decide)).trans hM173
                        have hF : fr K L [12, 14, 16, 30, 31, 33, 34, 41, 42, 49, 50, 75, 76] M M_189 := hF.tr hF2 (by decide)
                        have hG : fG K L [10] M M_189 := hG.tr hWb hG2 (by decide)
                        obtain ⟨n_194, hn9, hlt9, hV2⟩ := hVP
                        rw [hV.2.1] at hn9
                        rw [hV.2.1, hV.2.2.1] at hV2
                        have hn9 : (fx M b23 10) = (n_194 : Int) := hn9
                        have hV : VW K L M M_189 b23 (va_up (fx M b23) 10 ((n_194 + 1 : Nat) : Int)) (va_up (va_up (va_up (va_up (va_up (va_up (va_up (va_up (ax M b23) 19 (upd (ax M b23 19) (nI n_194).toNatClampNeg (nI j_185))) 20 (upd (ax M b23 20) (nI n_194).toNatClampNeg (nI j_183))) 21 (upd (ax M b23 21) (nI n_194).toNatClampNeg k4)) 22 (upd (ax M b23 22) (nI n_194).toNatClampNeg (-1))) 23 (upd (ax M b23 23) (nI n_194).toNatClampNeg 0)) 24 (upd (ax M b23 24) (nI n_194).toNatClampNeg 0)) 25 (upd (ax M b23 25) (nI n_194).toNatClampNeg (-1))) 9 (upd (ax M b23 9) (nI j_183).toNatClampNeg (nI (n_194 + 1)))) := hV.tr hV2
                        obtain ⟨j_195, rfl, c_196⟩ := hp_190
                        have hPc := hP.sub (ws' := [(za, .inr (13, [.int 0, .ref z1, .int (nI z2), .int (nI z3), .int z4, .int z5, .ref z6, .ref z7, .ref z8, .ref z9, .int (nI 0), .ref z11, .ref z12, .ref z13, .ref z14, .ref z15, .int (nI z16), .ref z17, .int z18, .ref z19]))]) [0] rfl
                        have hDc := hD.sub (ws' := [(za, .inr (13, [.int 0, .ref z1, .int (nI z2), .int (nI z3), .int z4, .int z5, .ref z6, .ref z7, .ref z8, .ref z9, .int (nI 0), .ref z11, .ref z12, .ref z13, .ref z14, .ref z15, .int (nI z16), .ref z17, .int z18, .ref z19]))]) [0] (by decide) rfl
                        have hKc := hK.sub (tys' := []) [] rfl
                        have hFc := va_free (wc := [(za, .inr (13, [.int 0, .ref z1, .int (nI z2), .int (nI z3), .int z4, .int z5, .ref z6, .ref z7, .ref z8, .ref z9, .int (nI 0), .ref z11, .ref z12, .ref z13, .ref z14, .ref z15, .int (nI z16), .ref z17, .int z18, .ref z19]))]) hD hS hA [0] rfl
                        refine va_calli (va_runV (As := [.int (nI j_195)]) (rest := []) ⟨hx, hb, hml, hown, hg⟩ (m_done l D H_187.size za 0 z1 (nI z2) (nI z3) z4 z5 z6 z7 z8 z9 (nI 0) z11 z12 z13 z14 z15 (nI z16) z17 z18 z19 (nI j_195)) (cwV 1 hg (gV wd_730 wd_731 wd_732 wd_717 wd_733) rfl rfl rfl (by decide +kernel) ⟨(Nat.le_trans (Nat.le_of_ble_eq_true rfl) hRf), (Nat.le_trans (Nat.le_of_ble_eq_true rfl) hRl)⟩) ⟨Pr.blind, va_recv hK hP (ci := 13) (q0 := 0) rfl rfl, fun U hU hW => ⟨rfl, Pr.at hPc hKc hDc hN hU hW⟩⟩ rfl rfl hl.1 rfl (lv_room (Nat.le_of_ble_eq_true rfl)) dX13_join_226 ⟨(Nat.le_trans (Nat.le_of_ble_eq_true rfl) hRc), (Nat.le_trans (Nat.le_of_ble_eq_true rfl) hRs)⟩) hS (fun q _ h => hFc q h) hFc (fun r_198 M_199 t H_197 locs ht hvm hw hB hz1 hk1 hS => ?_)
                        have hp_200 := hw
                        obtain ⟨hP1, hK1, hD1⟩ := hB
                        rw [ht] at hP1
                        obtain ⟨hP, hD⟩ := va_joinQ (X := [(za, .inr (13, [.int 0, .ref z1, .int (nI z2), .int (nI z3), .int z4, .int z5, .ref z6, .ref z7, .ref z8, .ref z9, .int (nI 0), .ref z11, .ref z12, .ref z13, .ref z14, .ref z15, .int (nI z16), .ref z17, .int z18, .ref z19]))]) (cx := [(za, .inr (13, [.int 0, .ref z1, .int (nI z2), .int (nI z3), .int z4, .int z5, .ref z6, .ref z7, .ref z8, .ref z9, .int (nI 0), .ref z11, .ref z12, .ref z13, .ref z14, .ref z15, .int (nI z16), .ref z17, .int z18, .ref z19]))]) (wr := []) (w1 := [(za, .inr (13, [.int 0, .ref z1, .int (nI z2), .int (nI z3), .int 0, .int (-1), .ref z6, .ref z7, .ref z8, .ref z9, .int (nI 0), .ref z11, .ref z12, .ref z13, .ref z14, .ref z15, .int (nI z16), .ref z17, .int z18, .ref z19]))]) (pl := va_pl L M_189) hP hD [0] [] rfl rfl (by decide) (by decide) hk1 hFc hP1 hD1
                        have hP : va_P D vwCl ([(za, .inr (13, [.int 0, .ref z1, .int (nI z2), .int (nI z3), .int 0, .int (-1), .ref z6, .ref z7, .ref z8, .ref z9, .int (nI 0), .ref z11, .ref z12, .ref z13, .ref z14, .ref z15, .int (nI z16), .ref z17, .int z18, .ref z19]))] ++ va_pl L M_189) H_197 := hP
                        have hD : va_D A ([(za, .inr (13, [.int 0, .ref z1, .int (nI z2), .int (nI z3), .int 0, .int (-1), .ref z6, .ref z7, .ref z8, .ref z9, .int (nI 0), .ref z11, .ref z12, .ref z13, .ref z14, .ref z15, .int (nI z16), .ref z17, .int z18, .ref z19]))] ++ va_pl L M_189) := hD
                        have hq := Eq.symm hp_200
                        subst hq
                        have hA9 : HA (ax M b23 2) (ax M b23 3) := hAT.1
                        have hB9 : HB (fx M b23 16) (fx M b23 14) (ax M b23 3) (ax M b23 43) := hAT.2.1
                        have hC9 : HC ((n_194 + 1 : Nat) : Int) (upd (ax M b23 22) (nI n_194).toNatClampNeg (-1)) (upd (ax M b23 23) (nI n_194).toNatClampNeg 0) := HC.beg hAT.2.2.1 hn9 (by omega) (nI_cl (by omega))
                        have hD9 : HD (fx M b23 0) (fx M b23 11) (fx M b23 15) (ax M b23 34) (ax M b23 41) := hAT.2.2.2.1
                        have hE9 : HE (fx M b23 0) (fx M b23 1) (fx M b23 12) (fx M b23 13) (ax M b23 37) := hAT.2.2.2.2
                        have hH9 : HI (va_up (fx M b23) 10 ((n_194 + 1 : Nat) : Int)) (va_up (va_up (va_up (va_up (va_up (va_up (va_up (va_up (ax M b23) 19 (upd (ax M b23 19) (nI n_194).toNatClampNeg (nI j_185))) 20 (upd (ax M b23 20) (nI n_194).toNatClampNeg (nI j_183))) 21 (upd (ax M b23 21) (nI n_194).toNatClampNeg k4)) 22 (upd (ax M b23 22) (nI n_194).toNatClampNeg (-1))) 23 (upd (ax M b23 23) (nI n_194).toNatClampNeg 0)) 24 (upd (ax M b23 24) (nI n_194).toNatClampNeg 0)) 25 (upd (ax M b23 25) (nI n_194).toNatClampNeg (-1))) 9 (upd (ax M b23 9) (nI j_183).toNatClampNeg (nI (n_194 + 1)))) := ⟨hA9, hB9, hC9, hD9, hE9⟩
                        have hGI9 : GI K L z1 z2 M_189 := GI.fin hW0 i1 b2 hGI hact hV (hF.at i1 (by decide)) hH9
                        rw [hQ]
                        exact W.iret (v := (nI j_195)) hx hb hr (fun t ht hW9 => ⟨⟨(nI j_195), M_189, rfl, ⟨hW, hF, hG, hGI9, trivial⟩, ⟨0, (-1), 0, (by omega), by rw [ht]; exact hP, hD⟩⟩, hS.F ht⟩) hS.2.2 dX13_join_229
                      · have hz := rfl (a := 0)
                        have n_201 : v169 = 24 := (iEQ (a := v169) (b := 24) (by omega) (by omega)).mp c_181
                        refine lv_aload_n hx hb dX13_join_206 rfl (lv_at hl 3 rfl) ?_
                        refine lv_bipush (v := 9) hx hb dX13_join_207 (by decide) ?_
                        have hPc := hP.sub (ws' := [(za, .inr (13, [.int 0, .ref z1, .int (nI z2), .int (nI z3), .int z4, .int z5, .ref z6, .ref z7, .ref z8, .ref z9, .int (nI 0), .ref z11, .ref z12, .ref z13, .ref z14, .ref z15, .int (nI z16), .ref z17, .int z18, .ref z19]))]) [0] rfl
                        have hDc := hD.sub (ws' := [(za, .inr (13, [.int 0, .ref z1, .int (nI z2), .int (nI z3), .int z4, .int z5, .ref z6, .ref z7, .ref z8, .ref z9, .int (nI 0), .ref z11, .ref z12, .ref z13, .ref z14, .ref z15, .int (nI z16), .ref z17, .int z18, .ref z19]))]) [0] (by decide) rfl
                        have hKc := hK.sub (tys' := []) [] rfl
                        have hFc := va_free (wc := [(za, .inr (13, [.int 0, .ref z1, .int (nI z2), .int (nI z3), .int z4, .int z5, .ref z6, .ref z7, .ref z8, .ref z9, .int (nI 0), .ref z11, .ref z12, .ref z13, .ref z14, .ref z15, .int (nI z16), .ref z17, .int z18, .ref z19]))]) hD hS hA [0] rfl
                        refine va_calli (va_runV (As := [.int 9]) (rest := []) ⟨hx, hb, hml, hown, hg⟩ (m_refused l D H_167.size za 0 z1 (nI z2) (nI z3) z4 z5 z6 z7 z8 z9 (nI 0) z11 z12 z13 z14 z15 (nI z16) z17 z18 z19 9) (cwV 1 hg (gV wd_725 wd_726 wd_727 wd_717 wd_728) rfl rfl rfl (by decide +kernel) ⟨(Nat.le_trans (Nat.le_of_ble_eq_true rfl) hRf), (Nat.le_trans (Nat.le_of_ble_eq_true rfl) hRl)⟩) ⟨Pr.blind, va_recv hK hP (ci := 13) (q0 := 0) rfl rfl, fun U hU hW => ⟨rfl, Pr.at hPc hKc hDc hN hU hW⟩⟩ rfl rfl hl.1 rfl (lv_room (Nat.le_of_ble_eq_true rfl)) dX13_join_209 ⟨(Nat.le_trans (Nat.le_of_ble_eq_true rfl) hRc), (Nat.le_trans (Nat.le_of_ble_eq_true rfl) hRs)⟩) hS (fun q _ h => hFc q h) hFc (fun r_203 M_204 t H_202 locs ht hvm hw hB hz1 hk1 hS => ?_)
                        have hp_205 := hw
                        obtain ⟨hP1, hK1, hD1⟩ := hB
                        rw [ht] at hP1
                        obtain ⟨hP, hD⟩ := va_joinQ (X := [(za, .inr (13, [.int 0, .ref z1, .int (nI z2), .int (nI z3), .int z4, .int z5, .ref z6, .ref z7, .ref z8, .ref z9, .int (nI 0), .ref z11, .ref z12, .ref z13, .ref z14, .ref z15, .int (nI z16), .ref z17, .int z18, .ref z19]))]) (cx := [(za, .inr (13, [.int 0, .ref z1, .int (nI z2), .int (nI z3), .int z4, .int z5, .ref z6, .ref z7, .ref z8, .ref z9, .int (nI 0), .ref z11, .ref z12, .ref z13, .ref z14, .ref z15, .int (nI z16), .ref z17, .int z18, .ref z19]))]) (wr := []) (w1 := [(za, .inr (13, [.int 0, .ref z1, .int (nI z2), .int (nI z3), .int 9, .int (-1), .ref z6, .ref z7, .ref z8, .ref z9, .int (nI 0), .ref z11, .ref z12, .ref z13, .ref z14, .ref z15, .int (nI z16), .ref z17, .int z18, .ref z19]))]) (pl := va_pl L M_166) hP hD [0] [] rfl rfl (by decide) (by decide) hk1 hFc hP1 hD1
                        have hP : va_P D vwCl ([(za, .inr (13, [.int 0, .ref z1, .int (nI z2), .int (nI z3), .int 9, .int (-1), .ref z6, .ref z7, .ref z8, .ref z9, .int (nI 0), .ref z11, .ref z12, .ref z13, .ref z14, .ref z15, .int (nI z16), .ref z17, .int z18, .ref z19]))] ++ va_pl L M_166) H_202 := hP
                        have hD : va_D A ([(za, .inr (13, [.int 0, .ref z1, .int (nI z2), .int (nI z3), .int 9, .int (-1), .ref z6, .ref z7, .ref z8, .ref z9, .int (nI 0), .ref z11, .ref z12, .ref z13, .ref z14, .ref z15, .int (nI z16), .ref z17, .int z18, .ref z19]))] ++ va_pl L M_166) := hD
                        have hq := Eq.symm hp_205
                        subst hq
                        have hA9 : HA (ax M b23 2) (ax M b23 3) := hAT.1
                        have hB9 : HB (fx M b23 16) (fx M b23 14) (ax M b23 3) (ax M b23 43) := hAT.2.1
                        have hC9 : HC (fx M b23 10) (ax M b23 22) (ax M b23 23) := hAT.2.2.1
                        have hD9 : HD (fx M b23 0) (fx M b23 11) (fx M b23 15) (ax M b23 34) (ax M b23 41) := hAT.2.2.2.1
                        have hE9 : HE (fx M b23 0) (fx M b23 1) (fx M b23 12) (fx M b23 13) (ax M b23 37) := hAT.2.2.2.2
                        have hH9 : HI (fx M b23) (ax M b23) := ⟨hA9, hB9, hC9, hD9, hE9⟩
                        have hGI9 : GI K L z1 z2 M_166 := GI.fin hW0 i1 b2 hGI hact hV (hF.at i1 (by decide)) hH9
                        rw [hQ]
                        exact W.iret (v := (-1)) hx hb hr (fun t ht hW9 => ⟨⟨(-1), M_166, rfl, ⟨hW, hF, hG, hGI9, trivial⟩, ⟨9, (-1), 0, (by omega), by rw [ht]; exact hP, hD⟩⟩, hS.F ht⟩) hS.2.2 dX13_join_212
                    · have hz := rfl (a := 0)
                      have n_206 : c_176 = 5 := (iEQ (a := c_176) (b := 5) (by omega) (by omega)).mp c_179
                      refine lv_aload_n hx hb dX13_join_167 rfl (lv_at hl 3 rfl) ?_
                      refine lv_aload_n hx hb dX13_join_168 rfl (lv_at hl 3 rfl) ?_
                      refine lv_iload_n hx hb dX13_join_169 rfl (lv_at hl 4 rfl) ?_
                      refine lv_aload_n hx hb dX13_join_170 rfl (lv_at hl 3 rfl) ?_
                      refine va_get (D := D) (ci := 13) (v := .ref z7) (C := RX13) (T := TX13) (N := 20) hx hb hg inG13 hown hK hP 0 rfl rfl 7 (by decide) (hg _ wd_760) (fun _ h9 => h9) rfl dX13_join_171 ?_
                      refine lv_iload_n hx hb dX13_join_174 rfl (lv_at hl 6 rfl) ?_
                      obtain ⟨f207, hM207⟩ := hW.open_48 i7
                      refine pg_iald hx hb hK hP i7.1 0 hM207 rfl (inb k3 40 (by omega) c_12 n_18) dX13_join_175 ?_
                      refine lv_topi (fun f_208 ef_208 => ?_)
                      have hPc : va_P D vwCl ([(za, .inr (13, [.int 0, .ref z1, .int (nI z2), .int (nI z3), .int z4, .int z5, .ref z6, .ref z7, .ref z8, .ref z9, .int (nI 0), .ref z11, .ref z12, .ref z13, .ref z14, .ref z15, .int (nI z16), .ref z17, .int z18, .ref z19]))] ++ va_pl L M_166) H_167 := hP
                      have hDc : va_D A ([(za, .inr (13, [.int 0, .ref z1, .int (nI z2), .int (nI z3), .int z4, .int z5, .ref z6, .ref z7, .ref z8, .ref z9, .int (nI 0), .ref z11, .ref z12, .ref z13, .ref z14, .ref z15, .int (nI z16), .ref z17, .int z18, .ref z19]))] ++ va_pl L M_166) := hD
                      have hFc : ∀ q, va_A ([(za, .inr (13, [.int 0, .ref z1, .int (nI z2), .int (nI z3), .int z4, .int z5, .ref z6, .ref z7, .ref z8, .ref z9, .int (nI 0), .ref z11, .ref z12, .ref z13, .ref z14, .ref z15, .int (nI z16), .ref z17, .int z18, .ref z19]))] ++ va_pl L M_166) H_167.size q → A q := pg_free hDc hS hA
                      refine va_calli (va_runV (As := [.int (nI j_19), .int f_208]) (rest := [.ref za]) ⟨hx, hb, hml, hown, hg⟩ (r_X13_way l D cy K L M_166 H_167.size za 0 z1 z2 z3 z4 z5 z6 z7 z8 z9 0 z11 z12 z13 z14 z15 z16 z17 z18 z19 j_19 f_208  hW i1 b2 b3 i6 i7 i8 i9 (by omega) i11 i12 i13 i14 i15 b16 i17 i19 (by omega)) (cwV 2 hg (gV wd_891 wd_892 wd_893 wd_717 wd_894) rfl rfl rfl (by decide +kernel) ⟨(Nat.le_trans (Nat.le_of_ble_eq_true rfl) hRf), (Nat.le_trans (Nat.le_of_ble_eq_true rfl) hRl)⟩) ⟨PG.blind, va_recv hK hP (ci := 13) (q0 := 0) rfl rfl, fun U hU hW => ⟨rfl, PG.at hPc hK hDc hN hU hW⟩⟩ rfl rfl hl.1 rfl (lv_room (Nat.le_of_ble_eq_true rfl)) dX13_join_176 ⟨(Nat.le_trans (Nat.le_of_ble_eq_true rfl) hRc), (Nat.le_trans (Nat.le_of_ble_eq_true rfl) hRs)⟩) hS (fun q _ h => hFc q h) hFc (fun r_210 M_211 t H_209 locs ht hvm hw hB hz1 hk1 hS => ?_)
                      have hWb := hW
                      obtain ⟨hW, hF2, hp_212⟩ := hw
                      obtain ⟨hP1, hD1⟩ := hB
                      rw [ht] at hP1
                      have hP : va_P D vwCl ([(za, .inr (13, [.int 0, .ref z1, .int (nI z2), .int (nI z3), .int z4, .int z5, .ref z6, .ref z7, .ref z8, .ref z9, .int (nI 0), .ref z11, .ref z12, .ref z13, .ref z14, .ref z15, .int (nI z16), .ref z17, .int z18, .ref z19]))] ++ va_pl L M_211) H_209 := hP1
                      have hD : va_D A ([(za, .inr (13, [.int 0, .ref z1, .int (nI z2), .int (nI z3), .int z4, .int z5, .ref z6, .ref z7, .ref z8, .ref z9, .int (nI 0), .ref z11, .ref z12, .ref z13, .ref z14, .ref z15, .int (nI z16), .ref z17, .int z18, .ref z19]))] ++ va_pl L M_211) := hD1.mono hFc
                      have hM_213 : M_211 b23 = .inr (12, fs26) := (hF2.at hb_25 (by decide)).trans hM_168
                      have hM_214 : M_211 z6 = .inl (cy 14, 40, .inl (f173)) := (hF2.at i6 (by decide)).trans hM173
                      have hM_215 : M_211 z7 = .inl (cy 14, 40, .inl (f207)) := (hF2.at i7 (by decide)).trans hM207
                      have hF : fr K L [12, 14, 16, 30, 31, 33, 34, 41, 42, 49, 50, 75, 76] M M_211 := hF.tr hF2 (by decide)
                      have hG : fG K L [10] M M_211 := hG.frR hF2 (by decide)
                      have hV : VW K L M M_211 b23 (fx M b23) (ax M b23) := hV.cal hWb hW hF2 ((fG.rf (js := [])).frR hF2 (by decide)) (by decide) (by decide) hb_25
                      obtain ⟨j_216, rfl, c_217⟩ := hp_212
                      refine va_put (D := D) (ci := 13) (v := .int (nI j_216)) (ty := .int) (C := RX13) (T := TX13) (N := 20) hx hb hg inG13 tyX13 tyX13_ok nmX13 hown hK hP hD hS 0 rfl rfl 10 (by decide) (hg _ wd_723) (fun _ h9 => h9) rfl (by decide +kernel) rfl rfl (Nat.le_of_ble_eq_true rfl) dX13_join_179 (fun H_218 locs hP hD hS => ?_)
                      have hP : va_P D vwCl ([(za, .inr (13, [.int 0, .ref z1, .int (nI z2), .int (nI z3), .int z4, .int z5, .ref z6, .ref z7, .ref z8, .ref z9, .int (nI j_216), .ref z11, .ref z12, .ref z13, .ref z14, .ref z15, .int (nI z16), .ref z17, .int z18, .ref z19]))] ++ va_pl L M_211) H_218 := hP
                      have hD : va_D A ([(za, .inr (13, [.int 0, .ref z1, .int (nI z2), .int (nI z3), .int z4, .int z5, .ref z6, .ref z7, .ref z8, .ref z9, .int (nI j_216), .ref z11, .ref z12, .ref z13, .ref z14, .ref z15, .int (nI z16), .ref z17, .int z18, .ref z19]))] ++ va_pl L M_211) := hD
                      refine lv_aload_n hx hb dX13_join_182 rfl (lv_at hl 3 rfl) ?_
                      refine va_get (D := D) (ci := 13) (v := .int (nI j_216)) (C := RX13) (T := TX13) (N := 20) hx hb hg inG13 hown hK hP 0 rfl rfl 10 (by decide) (hg _ wd_723) (fun _ h9 => h9) rfl dX13_join_183 ?_
                      refine lv_if_le (tgt := 196) hx hb dX13_join_186 (by decide) (fun c_219 => ?_) (fun c_219 => ?_)
                      · have hz := rfl (a := 0)
                        have n_220 : j_216 ≤ 0 := (iLE (a := j_216) (b := 0) (by omega) (by omega)).mp c_219
                        refine lv_aload hx hb dX13_join_196 (lv_at hl 2 rfl) ?_
                        refine pg_getN (D := D) (ci := 12) (v := .int (nI v169)) (C := RX12) (T := TX12) (N := 51) hx hb hg inG12 hown hK hP hb_25.1 hM_213 rfl 10 (by decide) (hN.use (Cond.fieldLinkNest RX13 68 RX12 "tenures" "I" RX13) 19 rfl rfl) (fun _ h9 => h9) hv169 dX13_join_198 ?_
                        refine lv_bipush (v := 24) hx hb dX13_join_201 (by decide) ?_
                        refine lv_icmp_ne (tgt := 213) hx hb dX13_join_203 (by decide) (fun c_221 => ?_) (fun c_221 => ?_)
                        · have hz := rfl (a := 0)
                          have n_222 : ¬ (v169 = 24) := fun q => c_221 ((iEQ (a := v169) (b := 24) (by omega) (by omega)).mpr q)
                          refine lv_aload_n hx hb dX13_join_213 rfl (lv_at hl 3 rfl) ?_
                          refine lv_aload_n hx hb dX13_join_214 rfl (lv_at hl 3 rfl) ?_
                          refine lv_aload hx hb dX13_join_215 (lv_at hl 2 rfl) ?_
                          refine lv_iload_n hx hb dX13_join_217 rfl (lv_at hl 5 rfl) ?_
                          refine lv_iload_n hx hb dX13_join_218 rfl (lv_at hl 6 rfl) ?_
                          refine lv_iload hx hb dX13_join_219 (lv_at hl 7 rfl) ?_
                          refine lv_iload hx hb dX13_join_221 (lv_at hl 8 rfl) ?_
                          obtain ⟨j_223, hj_224, rfl⟩ := i32nat 6 (by decide) c_9 c_10
                          obtain ⟨j_225, hj_226, rfl⟩ := i32nat 40 (by decide) c_12 n_18
                          have hPc : va_P D vwCl ([(za, .inr (13, [.int 0, .ref z1, .int (nI z2), .int (nI z3), .int z4, .int z5, .ref z6, .ref z7, .ref z8, .ref z9, .int (nI j_216), .ref z11, .ref z12, .ref z13, .ref z14, .ref z15, .int (nI z16), .ref z17, .int z18, .ref z19]))] ++ va_pl L M_211) H_218 := hP
                          have hDc : va_D A ([(za, .inr (13, [.int 0, .ref z1, .int (nI z2), .int (nI z3), .int z4, .int z5, .ref z6, .ref z7, .ref z8, .ref z9, .int (nI j_216), .ref z11, .ref z12, .ref z13, .ref z14, .ref z15, .int (nI z16), .ref z17, .int z18, .ref z19]))] ++ va_pl L M_211) := hD
                          have hFc : ∀ q, va_A ([(za, .inr (13, [.int 0, .ref z1, .int (nI z2), .int (nI z3), .int z4, .int z5, .ref z6, .ref z7, .ref z8, .ref z9, .int (nI j_216), .ref z11, .ref z12, .ref z13, .ref z14, .ref z15, .int (nI z16), .ref z17, .int z18, .ref z19]))] ++ va_pl L M_211) H_218.size q → A q := pg_free hDc hS hA
                          refine va_calli (va_runV (As := [.ref b23, .int (nI j_223), .int (nI j_225), .int k4, .int k5]) (rest := [.ref za]) ⟨hx, hb, hml, hown, hg⟩ (r_begins2 l D cy K L M_211 H_218.size za 0 z1 z2 z3 z4 z5 z6 z7 z8 z9 j_216 z11 z12 z13 z14 z15 z16 z17 z18 z19 b23 j_223 j_225 k4 k5  hW i1 b2 b3 i6 i7 i8 i9 c_217 i11 i12 i13 i14 i15 b16 i17 i19 hb_25 (by omega) (by omega) ⟨_, _, hM_213, hv169, by omega⟩ hV.2.2.2) (cwV 5 hg (gV wd_832 wd_833 wd_834 wd_717 wd_835) rfl rfl rfl (by decide +kernel) ⟨(Nat.le_trans (Nat.le_of_ble_eq_true rfl) hRf), (Nat.le_trans (Nat.le_of_ble_eq_true rfl) hRl)⟩) ⟨PG.blind, va_recv hK hP (ci := 13) (q0 := 0) rfl rfl, fun U hU hW => ⟨rfl, PG.at hPc hK hDc hN hU hW⟩⟩ rfl rfl hl.1 rfl (lv_room (Nat.le_of_ble_eq_true rfl)) dX13_join_223 ⟨(Nat.le_trans (Nat.le_of_ble_eq_true rfl) hRc), (Nat.le_trans (Nat.le_of_ble_eq_true rfl) hRs)⟩) hS (fun q _ h => hFc q h) hFc (fun r_228 M_229 t H_227 locs ht hvm hw hB hz1 hk1 hS => ?_)
                          have hWb := hW
                          obtain ⟨hW, hF2, hG2, hVP, hp_230⟩ := hw
                          obtain ⟨hP1, hD1⟩ := hB
                          rw [ht] at hP1
                          have hP : va_P D vwCl ([(za, .inr (13, [.int 0, .ref z1, .int (nI z2), .int (nI z3), .int z4, .int z5, .ref z6, .ref z7, .ref z8, .ref z9, .int (nI j_216), .ref z11, .ref z12, .ref z13, .ref z14, .ref z15, .int (nI z16), .ref z17, .int z18, .ref z19]))] ++ va_pl L M_229) H_227 := hP1
                          have hD : va_D A ([(za, .inr (13, [.int 0, .ref z1, .int (nI z2), .int (nI z3), .int z4, .int z5, .ref z6, .ref z7, .ref z8, .ref z9, .int (nI j_216), .ref z11, .ref z12, .ref z13, .ref z14, .ref z15, .int (nI z16), .ref z17, .int z18, .ref z19]))] ++ va_pl L M_229) := hD1.mono hFc
                          obtain ⟨fs231, hM231, hn231, hl231⟩ := hW.open_12 hb_25
                          have hv_232 : fs231[9]? = some (.ref v34 : Value) := (hG2 _ hb_25 _ _ hM_213 hM231 9 (by decide)).trans hv34
                          have hM_233 : M_229 z6 = .inl (cy 14, 40, .inl (f173)) := (hF2.at i6 (by decide)).trans hM_214
                          have hM_234 : M_229 z7 = .inl (cy 14, 40, .inl (f207)) := (hF2.at i7 (by decide)).trans hM_215
                          have hF : fr K L [12, 14, 16, 30, 31, 33, 34, 41, 42, 49, 50, 75, 76] M M_229 := hF.tr hF2 (by decide)
                          have hG : fG K L [10] M M_229 := hG.tr hWb hG2 (by decide)
                          obtain ⟨n_235, hn9, hlt9, hV2⟩ := hVP
                          rw [hV.2.1] at hn9
                          rw [hV.2.1, hV.2.2.1] at hV2
                          have hn9 : (fx M b23 10) = (n_235 : Int) := hn9
                          have hV : VW K L M M_229 b23 (va_up (fx M b23) 10 ((n_235 + 1 : Nat) : Int)) (va_up (va_up (va_up (va_up (va_up (va_up (va_up (va_up (ax M b23) 19 (upd (ax M b23 19) (nI n_235).toNatClampNeg (nI j_225))) 20 (upd (ax M b23 20) (nI n_235).toNatClampNeg (nI j_223))) 21 (upd (ax M b23 21) (nI n_235).toNatClampNeg k4)) 22 (upd (ax M b23 22) (nI n_235).toNatClampNeg (-1))) 23 (upd (ax M b23 23) (nI n_235).toNatClampNeg 0)) 24 (upd (ax M b23 24) (nI n_235).toNatClampNeg 0)) 25 (upd (ax M b23 25) (nI n_235).toNatClampNeg (-1))) 9 (upd (ax M b23 9) (nI j_223).toNatClampNeg (nI (n_235 + 1)))) := hV.tr hV2
                          obtain ⟨j_236, rfl, c_237⟩ := hp_230
                          have hPc := hP.sub (ws' := [(za, .inr (13, [.int 0, .ref z1, .int (nI z2), .int (nI z3), .int z4, .int z5, .ref z6, .ref z7, .ref z8, .ref z9, .int (nI j_216), .ref z11, .ref z12, .ref z13, .ref z14, .ref z15, .int (nI z16), .ref z17, .int z18, .ref z19]))]) [0] rfl
                          have hDc := hD.sub (ws' := [(za, .inr (13, [.int 0, .ref z1, .int (nI z2), .int (nI z3), .int z4, .int z5, .ref z6, .ref z7, .ref z8, .ref z9, .int (nI j_216), .ref z11, .ref z12, .ref z13, .ref z14, .ref z15, .int (nI z16), .ref z17, .int z18, .ref z19]))]) [0] (by decide) rfl
                          have hKc := hK.sub (tys' := []) [] rfl
                          have hFc := va_free (wc := [(za, .inr (13, [.int 0, .ref z1, .int (nI z2), .int (nI z3), .int z4, .int z5, .ref z6, .ref z7, .ref z8, .ref z9, .int (nI j_216), .ref z11, .ref z12, .ref z13, .ref z14, .ref z15, .int (nI z16), .ref z17, .int z18, .ref z19]))]) hD hS hA [0] rfl
                          refine va_calli (va_runV (As := [.int (nI j_236)]) (rest := []) ⟨hx, hb, hml, hown, hg⟩ (m_done l D H_227.size za 0 z1 (nI z2) (nI z3) z4 z5 z6 z7 z8 z9 (nI j_216) z11 z12 z13 z14 z15 (nI z16) z17 z18 z19 (nI j_236)) (cwV 1 hg (gV wd_730 wd_731 wd_732 wd_717 wd_733) rfl rfl rfl (by decide +kernel) ⟨(Nat.le_trans (Nat.le_of_ble_eq_true rfl) hRf), (Nat.le_trans (Nat.le_of_ble_eq_true rfl) hRl)⟩) ⟨Pr.blind, va_recv hK hP (ci := 13) (q0 := 0) rfl rfl, fun U hU hW => ⟨rfl, Pr.at hPc hKc hDc hN hU hW⟩⟩ rfl rfl hl.1 rfl (lv_room (Nat.le_of_ble_eq_true rfl)) dX13_join_226 ⟨(Nat.le_trans (Nat.le_of_ble_eq_true rfl) hRc), (Nat.le_trans (Nat.le_of_ble_eq_true rfl) hRs)⟩) hS (fun q _ h => hFc q h) hFc (fun r_239 M_240 t H_238 locs ht hvm hw hB hz1 hk1 hS => ?_)
                          have hp_241 := hw
                          obtain ⟨hP1, hK1, hD1⟩ := hB
                          rw [ht] at hP1
                          obtain ⟨hP, hD⟩ := va_joinQ (X := [(za, .inr (13, [.int 0, .ref z1, .int (nI z2), .int (nI z3), .int z4, .int z5, .ref z6, .ref z7, .ref z8, .ref z9, .int (nI j_216), .ref z11, .ref z12, .ref z13, .ref z14, .ref z15, .int (nI z16), .ref z17, .int z18, .ref z19]))]) (cx := [(za, .inr (13, [.int 0, .ref z1, .int (nI z2), .int (nI z3), .int z4, .int z5, .ref z6, .ref z7, .ref z8, .ref z9, .int (nI j_216), .ref z11, .ref z12, .ref z13, .ref z14, .ref z15, .int (nI z16), .ref z17, .int z18, .ref z19]))]) (wr := []) (w1 := [(za, .inr (13, [.int 0, .ref z1, .int (nI z2), .int (nI z3), .int 0, .int (-1), .ref z6, .ref z7, .ref z8, .ref z9, .int (nI j_216), .ref z11, .ref z12, .ref z13, .ref z14, .ref z15, .int (nI z16), .ref z17, .int z18, .ref z19]))]) (pl := va_pl L M_229) hP hD [0] [] rfl rfl (by decide) (by decide) hk1 hFc hP1 hD1
                          have hP : va_P D vwCl ([(za, .inr (13, [.int 0, .ref z1, .int (nI z2), .int (nI z3), .int 0, .int (-1), .ref z6, .ref z7, .ref z8, .ref z9, .int (nI j_216), .ref z11, .ref z12, .ref z13, .ref z14, .ref z15, .int (nI z16), .ref z17, .int z18, .ref z19]))] ++ va_pl L M_229) H_238 := hP
                          have hD : va_D A ([(za, .inr (13, [.int 0, .ref z1, .int (nI z2), .int (nI z3), .int 0, .int (-1), .ref z6, .ref z7, .ref z8, .ref z9, .int (nI j_216), .ref z11, .ref z12, .ref z13, .ref z14, .ref z15, .int (nI z16), .ref z17, .int z18, .ref z19]))] ++ va_pl L M_229) := hD
                          have hq := Eq.symm hp_241
                          subst hq
                          have hA9 : HA (ax M b23 2) (ax M b23 3) := hAT.1
                          have hB9 : HB (fx M b23 16) (fx M b23 14) (ax M b23 3) (ax M b23 43) := hAT.2.1
                          have hC9 : HC ((n_235 + 1 : Nat) : Int) (upd (ax M b23 22) (nI n_235).toNatClampNeg (-1)) (upd (ax M b23 23) (nI n_235).toNatClampNeg 0) := HC.beg hAT.2.2.1 hn9 (by omega) (nI_cl (by omega))
                          have hD9 : HD (fx M b23 0) (fx M b23 11) (fx M b23 15) (ax M b23 34) (ax M b23 41) := hAT.2.2.2.1
                          have hE9 : HE (fx M b23 0) (fx M b23 1) (fx M b23 12) (fx M b23 13) (ax M b23 37) := hAT.2.2.2.2
                          have hH9 : HI (va_up (fx M b23) 10 ((n_235 + 1 : Nat) : Int)) (va_up (va_up (va_up (va_up (va_up (va_up (va_up (va_up (ax M b23) 19 (upd (ax M b23 19) (nI n_235).toNatClampNeg (nI j_225))) 20 (upd (ax M b23 20) (nI n_235).toNatClampNeg (nI j_223))) 21 (upd (ax M b23 21) (nI n_235).toNatClampNeg k4)) 22 (upd (ax M b23 22) (nI n_235).toNatClampNeg (-1))) 23 (upd (ax M b23 23) (nI n_235).toNatClampNeg 0)) 24 (upd (ax M b23 24) (nI n_235).toNatClampNeg 0)) 25 (upd (ax M b23 25) (nI n_235).toNatClampNeg (-1))) 9 (upd (ax M b23 9) (nI j_223).toNatClampNeg (nI (n_235 + 1)))) := ⟨hA9, hB9, hC9, hD9, hE9⟩
                          have hGI9 : GI K L z1 z2 M_229 := GI.fin hW0 i1 b2 hGI hact hV (hF.at i1 (by decide)) hH9
                          rw [hQ]
                          exact W.iret (v := (nI j_236)) hx hb hr (fun t ht hW9 => ⟨⟨(nI j_236), M_229, rfl, ⟨hW, hF, hG, hGI9, trivial⟩, ⟨0, (-1), j_216, (by omega), by rw [ht]; exact hP, hD⟩⟩, hS.F ht⟩) hS.2.2 dX13_join_229
                        · have hz := rfl (a := 0)
                          have n_242 : v169 = 24 := (iEQ (a := v169) (b := 24) (by omega) (by omega)).mp c_221
                          refine lv_aload_n hx hb dX13_join_206 rfl (lv_at hl 3 rfl) ?_
                          refine lv_bipush (v := 9) hx hb dX13_join_207 (by decide) ?_
                          have hPc := hP.sub (ws' := [(za, .inr (13, [.int 0, .ref z1, .int (nI z2), .int (nI z3), .int z4, .int z5, .ref z6, .ref z7, .ref z8, .ref z9, .int (nI j_216), .ref z11, .ref z12, .ref z13, .ref z14, .ref z15, .int (nI z16), .ref z17, .int z18, .ref z19]))]) [0] rfl
                          have hDc := hD.sub (ws' := [(za, .inr (13, [.int 0, .ref z1, .int (nI z2), .int (nI z3), .int z4, .int z5, .ref z6, .ref z7, .ref z8, .ref z9, .int (nI j_216), .ref z11, .ref z12, .ref z13, .ref z14, .ref z15, .int (nI z16), .ref z17, .int z18, .ref z19]))]) [0] (by decide) rfl
                          have hKc := hK.sub (tys' := []) [] rfl
                          have hFc := va_free (wc := [(za, .inr (13, [.int 0, .ref z1, .int (nI z2), .int (nI z3), .int z4, .int z5, .ref z6, .ref z7, .ref z8, .ref z9, .int (nI j_216), .ref z11, .ref z12, .ref z13, .ref z14, .ref z15, .int (nI z16), .ref z17, .int z18, .ref z19]))]) hD hS hA [0] rfl
                          refine va_calli (va_runV (As := [.int 9]) (rest := []) ⟨hx, hb, hml, hown, hg⟩ (m_refused l D H_218.size za 0 z1 (nI z2) (nI z3) z4 z5 z6 z7 z8 z9 (nI j_216) z11 z12 z13 z14 z15 (nI z16) z17 z18 z19 9) (cwV 1 hg (gV wd_725 wd_726 wd_727 wd_717 wd_728) rfl rfl rfl (by decide +kernel) ⟨(Nat.le_trans (Nat.le_of_ble_eq_true rfl) hRf), (Nat.le_trans (Nat.le_of_ble_eq_true rfl) hRl)⟩) ⟨Pr.blind, va_recv hK hP (ci := 13) (q0 := 0) rfl rfl, fun U hU hW => ⟨rfl, Pr.at hPc hKc hDc hN hU hW⟩⟩ rfl rfl hl.1 rfl (lv_room (Nat.le_of_ble_eq_true rfl)) dX13_join_209 ⟨(Nat.le_trans (Nat.le_of_ble_eq_true rfl) hRc), (Nat.le_trans (Nat.le_of_ble_eq_true rfl) hRs)⟩) hS (fun q _ h => hFc q h) hFc (fun r_244 M_245 t H_243 locs ht hvm hw hB hz1 hk1 hS => ?_)
                          have hp_246 := hw
                          obtain ⟨hP1, hK1, hD1⟩ := hB
                          rw [ht] at hP1
                          obtain ⟨hP, hD⟩ := va_joinQ (X := [(za, .inr (13, [.int 0, .ref z1, .int (nI z2), .int (nI z3), .int z4, .int z5, .ref z6, .ref z7, .ref z8, .ref z9, .int (nI j_216), .ref z11, .ref z12, .ref z13, .ref z14, .ref z15, .int (nI z16), .ref z17, .int z18, .ref z19]))]) (cx := [(za, .inr (13, [.int 0, .ref z1, .int (nI z2), .int (nI z3), .int z4, .int z5, .ref z6, .ref z7, .ref z8, .ref z9, .int (nI j_216), .ref z11, .ref z12, .ref z13, .ref z14, .ref z15, .int (nI z16), .ref z17, .int z18, .ref z19]))]) (wr := []) (w1 := [(za, .inr (13, [.int 0, .ref z1, .int (nI z2), .int (nI z3), .int 9, .int (-1), .ref z6, .ref z7, .ref z8, .ref z9, .int (nI j_216), .ref z11, .ref z12, .ref z13, .ref z14, .ref z15, .int (nI z16), .ref z17, .int z18, .ref z19]))]) (pl := va_pl L M_211) hP hD [0] [] rfl rfl (by decide) (by decide) hk1 hFc hP1 hD1
                          have hP : va_P D vwCl ([(za, .inr (13, [.int 0, .ref z1, .int (nI z2), .int (nI z3), .int 9, .int (-1), .ref z6, .ref z7, .ref z8, .ref z9, .int (nI j_216), .ref z11, .ref z12, .ref z13, .ref z14, .ref z15, .int (nI z16), .ref z17, .int z18, .ref z19]))] ++ va_pl L M_211) H_243 := hP
                          have hD : va_D A ([(za, .inr (13, [.int 0, .ref z1, .int (nI z2), .int (nI z3), .int 9, .int (-1), .ref z6, .ref z7, .ref z8, .ref z9, .int (nI j_216), .ref z11, .ref z12, .ref z13, .ref z14, .ref z15, .int (nI z16), .ref z17, .int z18, .ref z19]))] ++ va_pl L M_211) := hD
                          have hq := Eq.symm hp_246
                          subst hq
                          have hA9 : HA (ax M b23 2) (ax M b23 3) := hAT.1
                          have hB9 : HB (fx M b23 16) (fx M b23 14) (ax M b23 3) (ax M b23 43) := hAT.2.1
                          have hC9 : HC (fx M b23 10) (ax M b23 22) (ax M b23 23) := hAT.2.2.1
                          have hD9 : HD (fx M b23 0) (fx M b23 11) (fx M b23 15) (ax M b23 34) (ax M b23 41) := hAT.2.2.2.1
                          have hE9 : HE (fx M b23 0) (fx M b23 1) (fx M b23 12) (fx M b23 13) (ax M b23 37) := hAT.2.2.2.2
                          have hH9 : HI (fx M b23) (ax M b23) := ⟨hA9, hB9, hC9, hD9, hE9⟩
                          have hGI9 : GI K L z1 z2 M_211 := GI.fin hW0 i1 b2 hGI hact hV (hF.at i1 (by decide)) hH9
                          rw [hQ]
                          exact W.iret (v := (-1)) hx hb hr (fun t ht hW9 => ⟨⟨(-1), M_211, rfl, ⟨hW, hF, hG, hGI9, trivial⟩, ⟨9, (-1), j_216, (by omega), by rw [ht]; exact hP, hD⟩⟩, hS.F ht⟩) hS.2.2 dX13_join_212
                      · have hz := rfl (a := 0)
                        have n_247 : ¬ (j_216 ≤ 0) := fun q => c_219 ((iLE (a := j_216) (b := 0) (by omega) (by omega)).mpr q)
                        refine lv_aload_n hx hb dX13_join_189 rfl (lv_at hl 3 rfl) ?_
                        refine lv_bipush (v := 8) hx hb dX13_join_190 (by decide) ?_
                        have hPc := hP.sub (ws' := [(za, .inr (13, [.int 0, .ref z1, .int (nI z2), .int (nI z3), .int z4, .int z5, .ref z6, .ref z7, .ref z8, .ref z9, .int (nI j_216), .ref z11, .ref z12, .ref z13, .ref z14, .ref z15, .int (nI z16), .ref z17, .int z18, .ref z19]))]) [0] rfl
                        have hDc := hD.sub (ws' := [(za, .inr (13, [.int 0, .ref z1, .int (nI z2), .int (nI z3), .int z4, .int z5, .ref z6, .ref z7, .ref z8, .ref z9, .int (nI j_216), .ref z11, .ref z12, .ref z13, .ref z14, .ref z15, .int (nI z16), .ref z17, .int z18, .ref z19]))]) [0] (by decide) rfl
                        have hKc := hK.sub (tys' := []) [] rfl
                        have hFc := va_free (wc := [(za, .inr (13, [.int 0, .ref z1, .int (nI z2), .int (nI z3), .int z4, .int z5, .ref z6, .ref z7, .ref z8, .ref z9, .int (nI j_216), .ref z11, .ref z12, .ref z13, .ref z14, .ref z15, .int (nI z16), .ref z17, .int z18, .ref z19]))]) hD hS hA [0] rfl
                        refine va_calli (va_runV (As := [.int 8]) (rest := []) ⟨hx, hb, hml, hown, hg⟩ (m_refused l D H_218.size za 0 z1 (nI z2) (nI z3) z4 z5 z6 z7 z8 z9 (nI j_216) z11 z12 z13 z14 z15 (nI z16) z17 z18 z19 8) (cwV 1 hg (gV wd_725 wd_726 wd_727 wd_717 wd_728) rfl rfl rfl (by decide +kernel) ⟨(Nat.le_trans (Nat.le_of_ble_eq_true rfl) hRf), (Nat.le_trans (Nat.le_of_ble_eq_true rfl) hRl)⟩) ⟨Pr.blind, va_recv hK hP (ci := 13) (q0 := 0) rfl rfl, fun U hU hW => ⟨rfl, Pr.at hPc hKc hDc hN hU hW⟩⟩ rfl rfl hl.1 rfl (lv_room (Nat.le_of_ble_eq_true rfl)) dX13_join_192 ⟨(Nat.le_trans (Nat.le_of_ble_eq_true rfl) hRc), (Nat.le_trans (Nat.le_of_ble_eq_true rfl) hRs)⟩) hS (fun q _ h => hFc q h) hFc (fun r_249 M_250 t H_248 locs ht hvm hw hB hz1 hk1 hS => ?_)
                        have hp_251 := hw
                        obtain ⟨hP1, hK1, hD1⟩ := hB
                        rw [ht] at hP1
                        obtain ⟨hP, hD⟩ := va_joinQ (X := [(za, .inr (13, [.int 0, .ref z1, .int (nI z2), .int (nI z3), .int z4, .int z5, .ref z6, .ref z7, .ref z8, .ref z9, .int (nI j_216), .ref z11, .ref z12, .ref z13, .ref z14, .ref z15, .int (nI z16), .ref z17, .int z18, .ref z19]))]) (cx := [(za, .inr (13, [.int 0, .ref z1, .int (nI z2), .int (nI z3), .int z4, .int z5, .ref z6, .ref z7, .ref z8, .ref z9, .int (nI j_216), .ref z11, .ref z12, .ref z13, .ref z14, .ref z15, .int (nI z16), .ref z17, .int z18, .ref z19]))]) (wr := []) (w1 := [(za, .inr (13, [.int 0, .ref z1, .int (nI z2), .int (nI z3), .int 8, .int (-1), .ref z6, .ref z7, .ref z8, .ref z9, .int (nI j_216), .ref z11, .ref z12, .ref z13, .ref z14, .ref z15, .int (nI z16), .ref z17, .int z18, .ref z19]))]) (pl := va_pl L M_211) hP hD [0] [] rfl rfl (by decide) (by decide) hk1 hFc hP1 hD1
                        have hP : va_P D vwCl ([(za, .inr (13, [.int 0, .ref z1, .int (nI z2), .int (nI z3), .int 8, .int (-1), .ref z6, .ref z7, .ref z8, .ref z9, .int (nI j_216), .ref z11, .ref z12, .ref z13, .ref z14, .ref z15, .int (nI z16), .ref z17, .int z18, .ref z19]))] ++ va_pl L M_211) H_248 := hP
                        have hD : va_D A ([(za, .inr (13, [.int 0, .ref z1, .int (nI z2), .int (nI z3), .int 8, .int (-1), .ref z6, .ref z7, .ref z8, .ref z9, .int (nI j_216), .ref z11, .ref z12, .ref z13, .ref z14, .ref z15, .int (nI z16), .ref z17, .int z18, .ref z19]))] ++ va_pl L M_211) := hD
                        have hq := Eq.symm hp_251
                        subst hq
                        have hA9 : HA (ax M b23 2) (ax M b23 3) := hAT.1
                        have hB9 : HB (fx M b23 16) (fx M b23 14) (ax M b23 3) (ax M b23 43) := hAT.2.1
                        have hC9 : HC (fx M b23 10) (ax M b23 22) (ax M b23 23) := hAT.2.2.1
                        have hD9 : HD (fx M b23 0) (fx M b23 11) (fx M b23 15) (ax M b23 34) (ax M b23 41) := hAT.2.2.2.1
                        have hE9 : HE (fx M b23 0) (fx M b23 1) (fx M b23 12) (fx M b23 13) (ax M b23 37) := hAT.2.2.2.2
                        have hH9 : HI (fx M b23) (ax M b23) := ⟨hA9, hB9, hC9, hD9, hE9⟩
                        have hGI9 : GI K L z1 z2 M_211 := GI.fin hW0 i1 b2 hGI hact hV (hF.at i1 (by decide)) hH9
                        rw [hQ]
                        exact W.iret (v := (-1)) hx hb hr (fun t ht hW9 => ⟨⟨(-1), M_211, rfl, ⟨hW, hF, hG, hGI9, trivial⟩, ⟨8, (-1), j_216, (by omega), by rw [ht]; exact hP, hD⟩⟩, hS.F ht⟩) hS.2.2 dX13_join_195
                  · have hz := rfl (a := 0)
                    have n_252 : ¬ (v169 ≤ v8w163) := fun q => c_170 ((iLE (a := v169) (b := v8w163) (by omega) (by omega)).mpr q)
                    refine lv_iload hx hb dX13_join_91 (lv_at hl 1 rfl) ?_
                    refine lv_if_ne (tgt := 133) hx hb dX13_join_93 (by decide) (fun c_253 => absurd c_253 (by decide)) (fun _ => ?_)
                    refine lv_aload hx hb dX13_join_96 (lv_at hl 2 rfl) ?_
                    obtain ⟨v254, hv254, hc254⟩ : ∃ v : Nat, fs26[20]? = some (.ref v : Value) ∧ isk K L v 31 24 := hl26 20 (by decide)
                    refine pg_getN (D := D) (ci := 12) (v := .ref v254) (C := RX12) (T := TX12) (N := 51) hx hb hg inG12 hown hK hP hb_25.1 hM_168 rfl 20 (by decide) (hN.use (Cond.fieldLinkNest RX13 110 RX12 "where" "[I" RX13) 29 rfl rfl) (fun _ h9 => h9) hv254 dX13_join_98 ?_
                    refine lv_iload hx hb dX13_join_101 (lv_at hl 0 rfl) ?_
                    obtain ⟨f255, hM255, hf255⟩ := hW.open_31 hc254
                    have hi_256 : vp_in (nI v8w163) 24 := (inbN v8w163 24 (by omega) (by omega))
                    refine pg_iald hx hb hK hP hc254.1 0 hM255 rfl hi_256 dX13_join_103 ?_
                    have hp_257 := hf255 _ (vp_lt hi_256)
                    obtain ⟨c_258, hc_259, ec_260⟩ := hp_257
                    rw [ec_260]
                    refine lv_iload_n hx hb dX13_join_104 rfl (lv_at hl 5 rfl) ?_
                    refine lv_icmp_ne (tgt := 137) hx hb dX13_join_105 (by decide) (fun c_261 => ?_) (fun c_261 => ?_)
                    · have hz := rfl (a := 0)
                      refine lv_iconst (v := 0) hx hb dX13_join_137 (by decide) ?_
                      refine lv_istore (lv' := [(7, .int 0), (8, .int (nI v8w163)), (6, .ref b23), (0, .ref za), (1, .int (nI j_19)), (2, .int k2), (3, .int k3), (4, .int k4), (5, .int k5)]) hx hb dX13_join_138 hl (by decide) rfl (fun ls hl => ?_)
                      refine lv_iinc (v := (nI (v8w163 + 1))) (lv' := [(8, .int (nI (v8w163 + 1))), (7, .int 0), (6, .ref b23), (0, .ref za), (1, .int (nI j_19)), (2, .int k2), (3, .int k3), (4, .int k4), (5, .int k5)]) hx hb dX13_join_140 hl (k := 1) rfl (nI_1 v8w163) (by decide) rfl (fun ls hl => ?_)
                      refine lv_goto (tgt := 81) hx hb dX13_join_143 (by decide) ?_
                      exact ih_161 0 (v8w163 + 1) M_166 H_167 _ _ (by omega) (Or.inl rfl) hM_168 (by omega) hW hF hG hV hP hD hS (lv_sub hl [0, 1, 2, 3, 4, 5, 6, 7, 8] rfl)
                    · have hz := rfl (a := 0)
                      refine lv_aload hx hb dX13_join_108 (lv_at hl 2 rfl) ?_
                      obtain ⟨v262, hv262, hc262⟩ : ∃ v : Nat, fs26[22]? = some (.ref v : Value) ∧ isk K L v 41 24 := hl26 22 (by decide)
                      refine pg_getN (D := D) (ci := 12) (v := .ref v262) (C := RX12) (T := TX12) (N := 51) hx hb hg inG12 hown hK hP hb_25.1 hM_168 rfl 22 (by decide) (hN.use (Cond.fieldLinkNest RX13 95 RX12 "ended" "[I" RX13) 31 rfl rfl) (fun _ h9 => h9) hv262 dX13_join_110 ?_
                      refine lv_iload hx hb dX13_join_113 (lv_at hl 0 rfl) ?_
                      obtain ⟨f263, hM263⟩ := hW.open_41 hc262
                      refine pg_iald hx hb hK hP hc262.1 0 hM263 rfl (inbN v8w163 24 (by omega) (by omega)) dX13_join_115 ?_
                      refine lv_topi (fun f_264 ef_264 => ?_)
                      refine lv_iconst (v := (-1)) hx hb dX13_join_116 (by decide) ?_
                      refine lv_icmp_eq (tgt := 133) hx hb dX13_join_117 (by decide) (fun c_265 => ?_) (fun c_265 => ?_)
                      · have hz := rfl (a := 0)
                        refine lv_iconst (v := 1) hx hb dX13_join_133 (by decide) ?_
                        refine lv_goto (tgt := 138) hx hb dX13_join_134 (by decide) ?_
                        refine lv_istore (lv' := [(7, .int 1), (8, .int (nI v8w163)), (6, .ref b23), (0, .ref za), (1, .int (nI j_19)), (2, .int k2), (3, .int k3), (4, .int k4), (5, .int k5)]) hx hb dX13_join_138 hl (by decide) rfl (fun ls hl => ?_)
                        refine lv_iinc (v := (nI (v8w163 + 1))) (lv' := [(8, .int (nI (v8w163 + 1))), (7, .int 1), (6, .ref b23), (0, .ref za), (1, .int (nI j_19)), (2, .int k2), (3, .int k3), (4, .int k4), (5, .int k5)]) hx hb dX13_join_140 hl (k := 1) rfl (nI_1 v8w163) (by decide) rfl (fun ls hl => ?_)
                        refine lv_goto (tgt := 81) hx hb dX13_join_143 (by decide) ?_
                        exact ih_161 1 (v8w163 + 1) M_166 H_167 _ _ (by omega) (Or.inr rfl) hM_168 (by omega) hW hF hG hV hP hD hS (lv_sub hl [0, 1, 2, 3, 4, 5, 6, 7, 8] rfl)
                      · have hz := rfl (a := 0)
                        refine lv_aload hx hb dX13_join_120 (lv_at hl 2 rfl) ?_
                        refine pg_getN (D := D) (ci := 12) (v := .ref v262) (C := RX12) (T := TX12) (N := 51) hx hb hg inG12 hown hK hP hb_25.1 hM_168 rfl 22 (by decide) (hN.use (Cond.fieldLinkNest RX13 95 RX12 "ended" "[I" RX13) 31 rfl rfl) (fun _ h9 => h9) hv262 dX13_join_122 ?_
                        refine lv_iload hx hb dX13_join_125 (lv_at hl 0 rfl) ?_
                        refine pg_iald hx hb hK hP hc262.1 0 hM263 rfl (inbN v8w163 24 (by omega) (by omega)) dX13_join_127 ?_
                        refine lv_topi (fun f_266 ef_266 => ?_)
                        refine lv_iload hx hb dX13_join_128 (lv_at hl 7 rfl) ?_
                        refine lv_icmp_le (tgt := 137) hx hb dX13_join_130 (by decide) (fun c_267 => ?_) (fun c_267 => ?_)
                        · have hz := rfl (a := 0)
                          refine lv_iconst (v := 0) hx hb dX13_join_137 (by decide) ?_
                          refine lv_istore (lv' := [(7, .int 0), (8, .int (nI v8w163)), (6, .ref b23), (0, .ref za), (1, .int (nI j_19)), (2, .int k2), (3, .int k3), (4, .int k4), (5, .int k5)]) hx hb dX13_join_138 hl (by decide) rfl (fun ls hl => ?_)
                          refine lv_iinc (v := (nI (v8w163 + 1))) (lv' := [(8, .int (nI (v8w163 + 1))), (7, .int 0), (6, .ref b23), (0, .ref za), (1, .int (nI j_19)), (2, .int k2), (3, .int k3), (4, .int k4), (5, .int k5)]) hx hb dX13_join_140 hl (k := 1) rfl (nI_1 v8w163) (by decide) rfl (fun ls hl => ?_)
                          refine lv_goto (tgt := 81) hx hb dX13_join_143 (by decide) ?_
                          exact ih_161 0 (v8w163 + 1) M_166 H_167 _ _ (by omega) (Or.inl rfl) hM_168 (by omega) hW hF hG hV hP hD hS (lv_sub hl [0, 1, 2, 3, 4, 5, 6, 7, 8] rfl)
                        · have hz := rfl (a := 0)
                          refine lv_iconst (v := 1) hx hb dX13_join_133 (by decide) ?_
                          refine lv_goto (tgt := 138) hx hb dX13_join_134 (by decide) ?_
                          refine lv_istore (lv' := [(7, .int 1), (8, .int (nI v8w163)), (6, .ref b23), (0, .ref za), (1, .int (nI j_19)), (2, .int k2), (3, .int k3), (4, .int k4), (5, .int k5)]) hx hb dX13_join_138 hl (by decide) rfl (fun ls hl => ?_)
                          refine lv_iinc (v := (nI (v8w163 + 1))) (lv' := [(8, .int (nI (v8w163 + 1))), (7, .int 1), (6, .ref b23), (0, .ref za), (1, .int (nI j_19)), (2, .int k2), (3, .int k3), (4, .int k4), (5, .int k5)]) hx hb dX13_join_140 hl (k := 1) rfl (nI_1 v8w163) (by decide) rfl (fun ls hl => ?_)
                          refine lv_goto (tgt := 81) hx hb dX13_join_143 (by decide) ?_
                          exact ih_161 1 (v8w163 + 1) M_166 H_167 _ _ (by omega) (Or.inr rfl) hM_168 (by omega) hW hF hG hV hP hD hS (lv_sub hl [0, 1, 2, 3, 4, 5, 6, 7, 8] rfl)
                · have hz := rfl (a := 0)
                  refine lv_iload hx hb dX13_join_81 (lv_at hl 0 rfl) ?_
                  refine lv_aload hx hb dX13_join_83 (lv_at hl 2 rfl) ?_
                  obtain ⟨v268, hv268, hc268⟩ : ∃ v : Nat, fs26[10]? = some (.int (nI v) : Value) ∧ v ≤ 24 := hl26 10 (by decide)
                  refine pg_getN (D := D) (ci := 12) (v := .int (nI v268)) (C := RX12) (T := TX12) (N := 51) hx hb hg inG12 hown hK hP hb_25.1 hM_168 rfl 10 (by decide) (hN.use (Cond.fieldLinkNest RX13 68 RX12 "tenures" "I" RX13) 19 rfl rfl) (fun _ h9 => h9) hv268 dX13_join_85 ?_
                  refine lv_icmp_ge (tgt := 146) hx hb dX13_join_88 (by decide) (fun c_269 => ?_) (fun c_269 => ?_)
                  · have hz := rfl (a := 0)
                    have n_270 : v268 ≤ v8w163 := (iLE (a := v268) (b := v8w163) (by omega) (by omega)).mp c_269
                    refine lv_iload hx hb dX13_join_146 (lv_at hl 1 rfl) ?_
                    refine lv_if_eq (tgt := 157) hx hb dX13_join_148 (by decide) (fun c_271 => absurd c_271 (by decide)) (fun _ => ?_)
                    refine lv_aload_n hx hb dX13_join_151 rfl (lv_at hl 3 rfl) ?_
                    refine lv_iconst (v := 4) hx hb dX13_join_152 (by decide) ?_
                    have hPc := hP.sub (ws' := [(za, .inr (13, [.int 0, .ref z1, .int (nI z2), .int (nI z3), .int z4, .int z5, .ref z6, .ref z7, .ref z8, .ref z9, .int (nI 0), .ref z11, .ref z12, .ref z13, .ref z14, .ref z15, .int (nI z16), .ref z17, .int z18, .ref z19]))]) [0] rfl
                    have hDc := hD.sub (ws' := [(za, .inr (13, [.int 0, .ref z1, .int (nI z2), .int (nI z3), .int z4, .int z5, .ref z6, .ref z7, .ref z8, .ref z9, .int (nI 0), .ref z11, .ref z12, .ref z13, .ref z14, .ref z15, .int (nI z16), .ref z17, .int z18, .ref z19]))]) [0] (by decide) rfl
                    have hKc := hK.sub (tys' := []) [] rfl
                    have hFc := va_free (wc := [(za, .inr (13, [.int 0, .ref z1, .int (nI z2), .int (nI z3), .int z4, .int z5, .ref z6, .ref z7, .ref z8, .ref z9, .int (nI 0), .ref z11, .ref z12, .ref z13, .ref z14, .ref z15, .int (nI z16), .ref z17, .int z18, .ref z19]))]) hD hS hA [0] rfl
                    refine va_calli (va_runV (As := [.int 4]) (rest := []) ⟨hx, hb, hml, hown, hg⟩ (m_refused l D H_167.size za 0 z1 (nI z2) (nI z3) z4 z5 z6 z7 z8 z9 (nI 0) z11 z12 z13 z14 z15 (nI z16) z17 z18 z19 4) (cwV 1 hg (gV wd_725 wd_726 wd_727 wd_717 wd_728) rfl rfl rfl (by decide +kernel) ⟨(Nat.le_trans (Nat.le_of_ble_eq_true rfl) hRf), (Nat.le_trans (Nat.le_of_ble_eq_true rfl) hRl)⟩) ⟨Pr.blind, va_recv hK hP (ci := 13) (q0 := 0) rfl rfl, fun U hU hW => ⟨rfl, Pr.at hPc hKc hDc hN hU hW⟩⟩ rfl rfl hl.1 rfl (lv_room (Nat.le_of_ble_eq_true rfl)) dX13_join_153 ⟨(Nat.le_trans (Nat.le_of_ble_eq_true rfl) hRc), (Nat.le_trans (Nat.le_of_ble_eq_true rfl) hRs)⟩) hS (fun q _ h => hFc q h) hFc (fun r_273 M_274 t H_272 locs ht hvm hw hB hz1 hk1 hS => ?_)
                    have hp_275 := hw
                    obtain ⟨hP1, hK1, hD1⟩ := hB
                    rw [ht] at hP1
                    obtain ⟨hP, hD⟩ := va_joinQ (X := [(za, .inr (13, [.int 0, .ref z1, .int (nI z2), .int (nI z3), .int z4, .int z5, .ref z6, .ref z7, .ref z8, .ref z9, .int (nI 0), .ref z11, .ref z12, .ref z13, .ref z14, .ref z15, .int (nI z16), .ref z17, .int z18, .ref z19]))]) (cx := [(za, .inr (13, [.int 0, .ref z1, .int (nI z2), .int (nI z3), .int z4, .int z5, .ref z6, .ref z7, .ref z8, .ref z9, .int (nI 0), .ref z11, .ref z12, .ref z13, .ref z14, .ref z15, .int (nI z16), .ref z17, .int z18, .ref z19]))]) (wr := []) (w1 := [(za, .inr (13, [.int 0, .ref z1, .int (nI z2), .int (nI z3), .int 4, .int (-1), .ref z6, .ref z7, .ref z8, .ref z9, .int (nI 0), .ref z11, .ref z12, .ref z13, .ref z14, .ref z15, .int (nI z16), .ref z17, .int z18, .ref z19]))]) (pl := va_pl L M_166) hP hD [0] [] rfl rfl (by decide) (by decide) hk1 hFc hP1 hD1
                    have hP : va_P D vwCl ([(za, .inr (13, [.int 0, .ref z1, .int (nI z2), .int (nI z3), .int 4, .int (-1), .ref z6, .ref z7, .ref z8, .ref z9, .int (nI 0), .ref z11, .ref z12, .ref z13, .ref z14, .ref z15, .int (nI z16), .ref z17, .int z18, .ref z19]))] ++ va_pl L M_166) H_272 := hP
                    have hD : va_D A ([(za, .inr (13, [.int 0, .ref z1, .int (nI z2), .int (nI z3), .int 4, .int (-1), .ref z6, .ref z7, .ref z8, .ref z9, .int (nI 0), .ref z11, .ref z12, .ref z13, .ref z14, .ref z15, .int (nI z16), .ref z17, .int z18, .ref z19]))] ++ va_pl L M_166) := hD
                    have hq := Eq.symm hp_275
                    subst hq
                    have hA9 : HA (ax M b23 2) (ax M b23 3) := hAT.1
                    have hB9 : HB (fx M b23 16) (fx M b23 14) (ax M b23 3) (ax M b23 43) := hAT.2.1
                    have hC9 : HC (fx M b23 10) (ax M b23 22) (ax M b23 23) := hAT.2.2.1
                    have hD9 : HD (fx M b23 0) (fx M b23 11) (fx M b23 15) (ax M b23 34) (ax M b23 41) := hAT.2.2.2.1
                    have hE9 : HE (fx M b23 0) (fx M b23 1) (fx M b23 12) (fx M b23 13) (ax M b23 37) := hAT.2.2.2.2
                    have hH9 : HI (fx M b23) (ax M b23) := ⟨hA9, hB9, hC9, hD9, hE9⟩
                    have hGI9 : GI K L z1 z2 M_166 := GI.fin hW0 i1 b2 hGI hact hV (hF.at i1 (by decide)) hH9
                    rw [hQ]
                    exact W.iret (v := (-1)) hx hb hr (fun t ht hW9 => ⟨⟨(-1), M_166, rfl, ⟨hW, hF, hG, hGI9, trivial⟩, ⟨4, (-1), 0, (by omega), by rw [ht]; exact hP, hD⟩⟩, hS.F ht⟩) hS.2.2 dX13_join_156
                  · have hz := rfl (a := 0)
                    have n_276 : ¬ (v268 ≤ v8w163) := fun q => c_269 ((iLE (a := v268) (b := v8w163) (by omega) (by omega)).mpr q)
                    refine lv_iload hx hb dX13_join_91 (lv_at hl 1 rfl) ?_
                    refine lv_if_ne (tgt := 133) hx hb dX13_join_93 (by decide) (fun _ => ?_) (fun c_277 => absurd c_277 (by decide))
                    refine lv_iconst (v := 1) hx hb dX13_join_133 (by decide) ?_
                    refine lv_goto (tgt := 138) hx hb dX13_join_134 (by decide) ?_
                    refine lv_istore (lv' := [(7, .int 1), (8, .int (nI v8w163)), (6, .ref b23), (0, .ref za), (1, .int (nI j_19)), (2, .int k2), (3, .int k3), (4, .int k4), (5, .int k5)]) hx hb dX13_join_138 hl (by decide) rfl (fun ls hl => ?_)
                    refine lv_iinc (v := (nI (v8w163 + 1))) (lv' := [(8, .int (nI (v8w163 + 1))), (7, .int 1), (6, .ref b23), (0, .ref za), (1, .int (nI j_19)), (2, .int k2), (3, .int k3), (4, .int k4), (5, .int k5)]) hx hb dX13_join_140 hl (k := 1) rfl (nI_1 v8w163) (by decide) rfl (fun ls hl => ?_)
                    refine lv_goto (tgt := 81) hx hb dX13_join_143 (by decide) ?_
                    exact ih_161 1 (v8w163 + 1) M_166 H_167 _ _ (by omega) (Or.inr rfl) hM_168 (by omega) hW hF hG hV hP hD hS (lv_sub hl [0, 1, 2, 3, 4, 5, 6, 7, 8] rfl)
            exact key_160 (24 - 0 + 1) 1 0 M H_27 _ _ (by omega) (Or.inr rfl) hM26 (by omega) hW hF hG hV hP hD hS (lv_sub hl [0, 1, 2, 3, 4, 5, 6, 7, 8] rfl)
        · have hz := rfl (a := 0)
          refine lv_if_ne (tgt := 61) hx hb dX13_join_52 (by decide) (fun c_278 => absurd c_278 (by decide)) (fun _ => ?_)
          refine lv_aload_n hx hb dX13_join_55 rfl (lv_at hl 1 rfl) ?_
          refine lv_iconst (v := 3) hx hb dX13_join_56 (by decide) ?_
          have hPc := hP.sub (ws' := [(za, .inr (13, [.int 0, .ref z1, .int (nI z2), .int (nI z3), .int z4, .int z5, .ref z6, .ref z7, .ref z8, .ref z9, .int (nI 0), .ref z11, .ref z12, .ref z13, .ref z14, .ref z15, .int (nI z16), .ref z17, .int z18, .ref z19]))]) [0] rfl
          have hDc := hD.sub (ws' := [(za, .inr (13, [.int 0, .ref z1, .int (nI z2), .int (nI z3), .int z4, .int z5, .ref z6, .ref z7, .ref z8, .ref z9, .int (nI 0), .ref z11, .ref z12, .ref z13, .ref z14, .ref z15, .int (nI z16), .ref z17, .int z18, .ref z19]))]) [0] (by decide) rfl
          have hKc := hK.sub (tys' := []) [] rfl
          have hFc := va_free (wc := [(za, .inr (13, [.int 0, .ref z1, .int (nI z2), .int (nI z3), .int z4, .int z5, .ref z6, .ref z7, .ref z8, .ref z9, .int (nI 0), .ref z11, .ref z12, .ref z13, .ref z14, .ref z15, .int (nI z16), .ref z17, .int z18, .ref z19]))]) hD hS hA [0] rfl
          refine va_calli (va_runV (As := [.int 3]) (rest := []) ⟨hx, hb, hml, hown, hg⟩ (m_refused l D H_27.size za 0 z1 (nI z2) (nI z3) z4 z5 z6 z7 z8 z9 (nI 0) z11 z12 z13 z14 z15 (nI z16) z17 z18 z19 3) (cwV 1 hg (gV wd_725 wd_726 wd_727 wd_717 wd_728) rfl rfl rfl (by decide +kernel) ⟨(Nat.le_trans (Nat.le_of_ble_eq_true rfl) hRf), (Nat.le_trans (Nat.le_of_ble_eq_true rfl) hRl)⟩) ⟨Pr.blind, va_recv hK hP (ci := 13) (q0 := 0) rfl rfl, fun U hU hW => ⟨rfl, Pr.at hPc hKc hDc hN hU hW⟩⟩ rfl rfl hl.1 rfl (lv_room (Nat.le_of_ble_eq_true rfl)) dX13_join_57 ⟨(Nat.le_trans (Nat.le_of_ble_eq_true rfl) hRc), (Nat.le_trans (Nat.le_of_ble_eq_true rfl) hRs)⟩) hS (fun q _ h => hFc q h) hFc (fun r_280 M_281 t H_279 locs ht hvm hw hB hz1 hk1 hS => ?_)
          have hp_282 := hw
          obtain ⟨hP1, hK1, hD1⟩ := hB
          rw [ht] at hP1
          obtain ⟨hP, hD⟩ := va_joinQ (X := [(za, .inr (13, [.int 0, .ref z1, .int (nI z2), .int (nI z3), .int z4, .int z5, .ref z6, .ref z7, .ref z8, .ref z9, .int (nI 0), .ref z11, .ref z12, .ref z13, .ref z14, .ref z15, .int (nI z16), .ref z17, .int z18, .ref z19]))]) (cx := [(za, .inr (13, [.int 0, .ref z1, .int (nI z2), .int (nI z3), .int z4, .int z5, .ref z6, .ref z7, .ref z8, .ref z9, .int (nI 0), .ref z11, .ref z12, .ref z13, .ref z14, .ref z15, .int (nI z16), .ref z17, .int z18, .ref z19]))]) (wr := []) (w1 := [(za, .inr (13, [.int 0, .ref z1, .int (nI z2), .int (nI z3), .int 3, .int (-1), .ref z6, .ref z7, .ref z8, .ref z9, .int (nI 0), .ref z11, .ref z12, .ref z13, .ref z14, .ref z15, .int (nI z16), .ref z17, .int z18, .ref z19]))]) (pl := va_pl L M) hP hD [0] [] rfl rfl (by decide) (by decide) hk1 hFc hP1 hD1
          have hP : va_P D vwCl ([(za, .inr (13, [.int 0, .ref z1, .int (nI z2), .int (nI z3), .int 3, .int (-1), .ref z6, .ref z7, .ref z8, .ref z9, .int (nI 0), .ref z11, .ref z12, .ref z13, .ref z14, .ref z15, .int (nI z16), .ref z17, .int z18, .ref z19]))] ++ va_pl L M) H_279 := hP
          have hD : va_D A ([(za, .inr (13, [.int 0, .ref z1, .int (nI z2), .int (nI z3), .int 3, .int (-1), .ref z6, .ref z7, .ref z8, .ref z9, .int (nI 0), .ref z11, .ref z12, .ref z13, .ref z14, .ref z15, .int (nI z16), .ref z17, .int z18, .ref z19]))] ++ va_pl L M) := hD
          have hq := Eq.symm hp_282
          subst hq
          rw [hQ]
          exact W.iret (v := (-1)) hx hb hr (fun t ht hW9 => ⟨⟨(-1), M, rfl, ⟨hW, hF, hG, hGI, trivial⟩, ⟨3, (-1), 0, (by omega), by rw [ht]; exact hP, hD⟩⟩, hS.F ht⟩) hS.2.2 dX13_join_60
      · have hz := rfl (a := 0)
        refine lv_aload_n hx hb dX13_join_31 rfl (lv_at hl 0 rfl) ?_
        refine lv_iconst (v := 1) hx hb dX13_join_32 (by decide) ?_
        have hPc := hP.sub (ws' := [(za, .inr (13, [.int 0, .ref z1, .int (nI z2), .int (nI z3), .int z4, .int z5, .ref z6, .ref z7, .ref z8, .ref z9, .int (nI 0), .ref z11, .ref z12, .ref z13, .ref z14, .ref z15, .int (nI z16), .ref z17, .int z18, .ref z19]))]) [0] rfl
        have hDc := hD.sub (ws' := [(za, .inr (13, [.int 0, .ref z1, .int (nI z2), .int (nI z3), .int z4, .int z5, .ref z6, .ref z7, .ref z8, .ref z9, .int (nI 0), .ref z11, .ref z12, .ref z13, .ref z14, .ref z15, .int (nI z16), .ref z17, .int z18, .ref z19]))]) [0] (by decide) rfl
        have hKc := hK.sub (tys' := []) [] rfl
        have hFc := va_free (wc := [(za, .inr (13, [.int 0, .ref z1, .int (nI z2), .int (nI z3), .int z4, .int z5, .ref z6, .ref z7, .ref z8, .ref z9, .int (nI 0), .ref z11, .ref z12, .ref z13, .ref z14, .ref z15, .int (nI z16), .ref z17, .int z18, .ref z19]))]) hD hS hA [0] rfl
        refine va_calli (va_runV (As := [.int 1]) (rest := []) ⟨hx, hb, hml, hown, hg⟩ (m_refused l D H_3.size za 0 z1 (nI z2) (nI z3) z4 z5 z6 z7 z8 z9 (nI 0) z11 z12 z13 z14 z15 (nI z16) z17 z18 z19 1) (cwV 1 hg (gV wd_725 wd_726 wd_727 wd_717 wd_728) rfl rfl rfl (by decide +kernel) ⟨(Nat.le_trans (Nat.le_of_ble_eq_true rfl) hRf), (Nat.le_trans (Nat.le_of_ble_eq_true rfl) hRl)⟩) ⟨Pr.blind, va_recv hK hP (ci := 13) (q0 := 0) rfl rfl, fun U hU hW => ⟨rfl, Pr.at hPc hKc hDc hN hU hW⟩⟩ rfl rfl hl.1 rfl (lv_room (Nat.le_of_ble_eq_true rfl)) dX13_join_33 ⟨(Nat.le_trans (Nat.le_of_ble_eq_true rfl) hRc), (Nat.le_trans (Nat.le_of_ble_eq_true rfl) hRs)⟩) hS (fun q _ h => hFc q h) hFc (fun r_284 M_285 t H_283 locs ht hvm hw hB hz1 hk1 hS => ?_)
        have hp_286 := hw
        obtain ⟨hP1, hK1, hD1⟩ := hB
        rw [ht] at hP1
        obtain ⟨hP, hD⟩ := va_joinQ (X := [(za, .inr (13, [.int 0, .ref z1, .int (nI z2), .int (nI z3), .int z4, .int z5, .ref z6, .ref z7, .ref z8, .ref z9, .int (nI 0), .ref z11, .ref z12, .ref z13, .ref z14, .ref z15, .int (nI z16), .ref z17, .int z18, .ref z19]))]) (cx := [(za, .inr (13, [.int 0, .ref z1, .int (nI z2), .int (nI z3), .int z4, .int z5, .ref z6, .ref z7, .ref z8, .ref z9, .int (nI 0), .ref z11, .ref z12, .ref z13, .ref z14, .ref z15, .int (nI z16), .ref z17, .int z18, .ref z19]))]) (wr := []) (w1 := [(za, .inr (13, [.int 0, .ref z1, .int (nI z2), .int (nI z3), .int 1, .int (-1), .ref z6, .ref z7, .ref z8, .ref z9, .int (nI 0), .ref z11, .ref z12, .ref z13, .ref z14, .ref z15, .int (nI z16), .ref z17, .int z18, .ref z19]))]) (pl := va_pl L M) hP hD [0] [] rfl rfl (by decide) (by decide) hk1 hFc hP1 hD1
        have hP : va_P D vwCl ([(za, .inr (13, [.int 0, .ref z1, .int (nI z2), .int (nI z3), .int 1, .int (-1), .ref z6, .ref z7, .ref z8, .ref z9, .int (nI 0), .ref z11, .ref z12, .ref z13, .ref z14, .ref z15, .int (nI z16), .ref z17, .int z18, .ref z19]))] ++ va_pl L M) H_283 := hP
        have hD : va_D A ([(za, .inr (13, [.int 0, .ref z1, .int (nI z2), .int (nI z3), .int 1, .int (-1), .ref z6, .ref z7, .ref z8, .ref z9, .int (nI 0), .ref z11, .ref z12, .ref z13, .ref z14, .ref z15, .int (nI z16), .ref z17, .int z18, .ref z19]))] ++ va_pl L M) := hD
        have hq := Eq.symm hp_286
        subst hq
        rw [hQ]
        exact W.iret (v := (-1)) hx hb hr (fun t ht hW9 => ⟨⟨(-1), M, rfl, ⟨hW, hF, hG, hGI, trivial⟩, ⟨1, (-1), 0, (by omega), by rw [ht]; exact hP, hD⟩⟩, hS.F ht⟩) hS.2.2 dX13_join_36
  · have hz := rfl (a := 0)
    refine lv_if_eq (tgt := 31) hx hb dX13_join_16 (by decide) (fun _ => ?_) (fun c_287 => absurd c_287 (by decide))
    refine lv_aload_n hx hb dX13_join_31 rfl (lv_at hl 0 rfl) ?_
    refine lv_iconst (v := 1) hx hb dX13_join_32 (by decide) ?_
    have hPc := hP.sub (ws' := [(za, .inr (13, [.int 0, .ref z1, .int (nI z2), .int (nI z3), .int z4, .int z5, .ref z6, .ref z7, .ref z8, .ref z9, .int (nI 0), .ref z11, .ref z12, .ref z13, .ref z14, .ref z15, .int (nI z16), .ref z17, .int z18, .ref z19]))]) [0] rfl
    have hDc := hD.sub (ws' := [(za, .inr (13, [.int 0, .ref z1, .int (nI z2), .int (nI z3), .int z4, .int z5, .ref z6, .ref z7, .ref z8, .ref z9, .int (nI 0), .ref z11, .ref z12, .ref z13, .ref z14, .ref z15, .int (nI z16), .ref z17, .int z18, .ref z19]))]) [0] (by decide) rfl
    have hKc := hK.sub (tys' := []) [] rfl
    have hFc := va_free (wc := [(za, .inr (13, [.int 0, .ref z1, .int (nI z2), .int (nI z3), .int z4, .int z5, .ref z6, .ref z7, .ref z8, .ref z9, .int (nI 0), .ref z11, .ref z12, .ref z13, .ref z14, .ref z15, .int (nI z16), .ref z17, .int z18, .ref z19]))]) hD hS hA [0] rfl
    refine va_calli (va_runV (As := [.int 1]) (rest := []) ⟨hx, hb, hml, hown, hg⟩ (m_refused l D H_3.size za 0 z1 (nI z2) (nI z3) z4 z5 z6 z7 z8 z9 (nI 0) z11 z12 z13 z14 z15 (nI z16) z17 z18 z19 1) (cwV 1 hg (gV wd_725 wd_726 wd_727 wd_717 wd_728) rfl rfl rfl (by decide +kernel) ⟨(Nat.le_trans (Nat.le_of_ble_eq_true rfl) hRf), (Nat.le_trans (Nat.le_of_ble_eq_true rfl) hRl)⟩) ⟨Pr.blind, va_recv hK hP (ci := 13) (q0 := 0) rfl rfl, fun U hU hW => ⟨rfl, Pr.at hPc hKc hDc hN hU hW⟩⟩ rfl rfl hl.1 rfl (lv_room (Nat.le_of_ble_eq_true rfl)) dX13_join_33 ⟨(Nat.le_trans (Nat.le_of_ble_eq_true rfl) hRc), (Nat.le_trans (Nat.le_of_ble_eq_true rfl) hRs)⟩) hS (fun q _ h => hFc q h) hFc (fun r_289 M_290 t H_288 locs ht hvm hw hB hz1 hk1 hS => ?_)
    have hp_291 := hw
    obtain ⟨hP1, hK1, hD1⟩ := hB
    rw [ht] at hP1
    obtain ⟨hP, hD⟩ := va_joinQ (X := [(za, .inr (13, [.int 0, .ref z1, .int (nI z2), .int (nI z3), .int z4, .int z5, .ref z6, .ref z7, .ref z8, .ref z9, .int (nI 0), .ref z11, .ref z12, .ref z13, .ref z14, .ref z15, .int (nI z16), .ref z17, .int z18, .ref z19]))]) (cx := [(za, .inr (13, [.int 0, .ref z1, .int (nI z2), .int (nI z3), .int z4, .int z5, .ref z6, .ref z7, .ref z8, .ref z9, .int (nI 0), .ref z11, .ref z12, .ref z13, .ref z14, .ref z15, .int (nI z16), .ref z17, .int z18, .ref z19]))]) (wr := []) (w1 := [(za, .inr (13, [.int 0, .ref z1, .int (nI z2), .int (nI z3), .int 1, .int (-1), .ref z6, .ref z7, .ref z8, .ref z9, .int (nI 0), .ref z11, .ref z12, .ref z13, .ref z14, .ref z15, .int (nI z16), .ref z17, .int z18, .ref z19]))]) (pl := va_pl L M) hP hD [0] [] rfl rfl (by decide) (by decide) hk1 hFc hP1 hD1
    have hP : va_P D vwCl ([(za, .inr (13, [.int 0, .ref z1, .int (nI z2), .int (nI z3), .int 1, .int (-1), .ref z6, .ref z7, .ref z8, .ref z9, .int (nI 0), .ref z11, .ref z12, .ref z13, .ref z14, .ref z15, .int (nI z16), .ref z17, .int z18, .ref z19]))] ++ va_pl L M) H_288 := hP
    have hD : va_D A ([(za, .inr (13, [.int 0, .ref z1, .int (nI z2), .int (nI z3), .int 1, .int (-1), .ref z6, .ref z7, .ref z8, .ref z9, .int (nI 0), .ref z11, .ref z12, .ref z13, .ref z14, .ref z15, .int (nI z16), .ref z17, .int z18, .ref z19]))] ++ va_pl L M) := hD
    have hq := Eq.symm hp_291
    subst hq
    rw [hQ]
    exact W.iret (v := (-1)) hx hb hr (fun t ht hW9 => ⟨⟨(-1), M, rfl, ⟨hW, hF, hG, hGI, trivial⟩, ⟨1, (-1), 0, (by omega), by rw [ht]; exact hP, hD⟩⟩, hS.F ht⟩) hS.2.2 dX13_join_36
