theorem dX13_way_0 : decode cX13_way 0 = .ok (.iconst 0, 1) := by decide +kernel
theorem dX13_way_1 : decode cX13_way 1 = .ok (.istore_n 3, 1) := by decide +kernel
theorem dX13_way_2 : decode cX13_way 2 = .ok (.iload_n 3, 1) := by decide +kernel
theorem dX13_way_3 : decode cX13_way 3 = .ok (.bipush 8, 2) := by decide +kernel
theorem dX13_way_5 : decode cX13_way 5 = .ok (.if_icmp .ge 26, 3) := by decide +kernel
theorem dX13_way_8 : decode cX13_way 8 = .ok (.aload_n 0, 1) := by decide +kernel
theorem dX13_way_9 : decode cX13_way 9 = .ok (.getfield 30, 3) := by decide +kernel
theorem dX13_way_12 : decode cX13_way 12 = .ok (.iload_n 3, 1) := by decide +kernel
theorem dX13_way_13 : decode cX13_way 13 = .ok (.iload_n 3, 1) := by decide +kernel
theorem dX13_way_14 : decode cX13_way 14 = .ok (.iload_n 2, 1) := by decide +kernel
theorem dX13_way_15 : decode cX13_way 15 = .ok (.if_icmp .ne 7, 3) := by decide +kernel
theorem dX13_way_18 : decode cX13_way 18 = .ok (.iconst 0, 1) := by decide +kernel
theorem dX13_way_19 : decode cX13_way 19 = .ok (.goto 5, 3) := by decide +kernel
theorem dX13_way_22 : decode cX13_way 22 = .ok (.bipush 100, 2) := by decide +kernel
theorem dX13_way_24 : decode cX13_way 24 = .ok (.iastore, 1) := by decide +kernel
theorem dX13_way_25 : decode cX13_way 25 = .ok (.iinc 3 1, 3) := by decide +kernel
theorem dX13_way_28 : decode cX13_way 28 = .ok (.goto (-26), 3) := by decide +kernel
theorem dX13_way_31 : decode cX13_way 31 = .ok (.iconst 0, 1) := by decide +kernel
theorem dX13_way_32 : decode cX13_way 32 = .ok (.istore_n 3, 1) := by decide +kernel
theorem dX13_way_33 : decode cX13_way 33 = .ok (.iload_n 3, 1) := by decide +kernel
theorem dX13_way_34 : decode cX13_way 34 = .ok (.bipush 8, 2) := by decide +kernel
theorem dX13_way_36 : decode cX13_way 36 = .ok (.if_icmp .ge 91, 3) := by decide +kernel
theorem dX13_way_39 : decode cX13_way 39 = .ok (.iconst 0, 1) := by decide +kernel
theorem dX13_way_40 : decode cX13_way 40 = .ok (.istore 4, 2) := by decide +kernel
theorem dX13_way_42 : decode cX13_way 42 = .ok (.iload 4, 2) := by decide +kernel
theorem dX13_way_44 : decode cX13_way 44 = .ok (.aload_n 0, 1) := by decide +kernel
theorem dX13_way_45 : decode cX13_way 45 = .ok (.getfield 61, 3) := by decide +kernel
theorem dX13_way_48 : decode cX13_way 48 = .ok (.if_icmp .ge 73, 3) := by decide +kernel
theorem dX13_way_51 : decode cX13_way 51 = .ok (.iconst 0, 1) := by decide +kernel
theorem dX13_way_52 : decode cX13_way 52 = .ok (.istore 5, 2) := by decide +kernel
theorem dX13_way_54 : decode cX13_way 54 = .ok (.iload 5, 2) := by decide +kernel
theorem dX13_way_56 : decode cX13_way 56 = .ok (.aload_n 0, 1) := by decide +kernel
theorem dX13_way_57 : decode cX13_way 57 = .ok (.getfield 61, 3) := by decide +kernel
theorem dX13_way_60 : decode cX13_way 60 = .ok (.if_icmp .ge 55, 3) := by decide +kernel
theorem dX13_way_63 : decode cX13_way 63 = .ok (.aload_n 0, 1) := by decide +kernel
theorem dX13_way_64 : decode cX13_way 64 = .ok (.getfield 30, 3) := by decide +kernel
theorem dX13_way_67 : decode cX13_way 67 = .ok (.iload 5, 2) := by decide +kernel
theorem dX13_way_69 : decode cX13_way 69 = .ok (.iaload, 1) := by decide +kernel
theorem dX13_way_70 : decode cX13_way 70 = .ok (.iconst 1, 1) := by decide +kernel
theorem dX13_way_71 : decode cX13_way 71 = .ok (.iadd, 1) := by decide +kernel
theorem dX13_way_72 : decode cX13_way 72 = .ok (.aload_n 0, 1) := by decide +kernel
theorem dX13_way_73 : decode cX13_way 73 = .ok (.getfield 30, 3) := by decide +kernel
theorem dX13_way_76 : decode cX13_way 76 = .ok (.iload 4, 2) := by decide +kernel
theorem dX13_way_78 : decode cX13_way 78 = .ok (.iaload, 1) := by decide +kernel
theorem dX13_way_79 : decode cX13_way 79 = .ok (.if_icmp .ge 30, 3) := by decide +kernel
theorem dX13_way_82 : decode cX13_way 82 = .ok (.aload_n 0, 1) := by decide +kernel
theorem dX13_way_83 : decode cX13_way 83 = .ok (.iload 4, 2) := by decide +kernel
theorem dX13_way_85 : decode cX13_way 85 = .ok (.iload 5, 2) := by decide +kernel
theorem dX13_way_87 : decode cX13_way 87 = .ok (.invokevirtual 107, 3) := by decide +kernel
theorem dX13_way_90 : decode cX13_way 90 = .ok (.ifCond .eq 19, 3) := by decide +kernel
theorem dX13_way_93 : decode cX13_way 93 = .ok (.aload_n 0, 1) := by decide +kernel
theorem dX13_way_94 : decode cX13_way 94 = .ok (.getfield 30, 3) := by decide +kernel
theorem dX13_way_97 : decode cX13_way 97 = .ok (.iload 4, 2) := by decide +kernel
theorem dX13_way_99 : decode cX13_way 99 = .ok (.aload_n 0, 1) := by decide +kernel
theorem dX13_way_100 : decode cX13_way 100 = .ok (.getfield 30, 3) := by decide +kernel
theorem dX13_way_103 : decode cX13_way 103 = .ok (.iload 5, 2) := by decide +kernel
theorem dX13_way_105 : decode cX13_way 105 = .ok (.iaload, 1) := by decide +kernel
theorem dX13_way_106 : decode cX13_way 106 = .ok (.iconst 1, 1) := by decide +kernel
theorem dX13_way_107 : decode cX13_way 107 = .ok (.iadd, 1) := by decide +kernel
theorem dX13_way_108 : decode cX13_way 108 = .ok (.iastore, 1) := by decide +kernel
theorem dX13_way_109 : decode cX13_way 109 = .ok (.iinc 5 1, 3) := by decide +kernel
theorem dX13_way_112 : decode cX13_way 112 = .ok (.goto (-58), 3) := by decide +kernel
theorem dX13_way_115 : decode cX13_way 115 = .ok (.iinc 4 1, 3) := by decide +kernel
theorem dX13_way_118 : decode cX13_way 118 = .ok (.goto (-76), 3) := by decide +kernel
theorem dX13_way_121 : decode cX13_way 121 = .ok (.iinc 3 1, 3) := by decide +kernel
theorem dX13_way_124 : decode cX13_way 124 = .ok (.goto (-91), 3) := by decide +kernel
theorem dX13_way_127 : decode cX13_way 127 = .ok (.aload_n 0, 1) := by decide +kernel
theorem dX13_way_128 : decode cX13_way 128 = .ok (.getfield 30, 3) := by decide +kernel
theorem dX13_way_131 : decode cX13_way 131 = .ok (.iload_n 1, 1) := by decide +kernel
theorem dX13_way_132 : decode cX13_way 132 = .ok (.iaload, 1) := by decide +kernel
theorem dX13_way_133 : decode cX13_way 133 = .ok (.bipush 100, 2) := by decide +kernel
theorem dX13_way_135 : decode cX13_way 135 = .ok (.if_icmp .lt 5, 3) := by decide +kernel
theorem dX13_way_138 : decode cX13_way 138 = .ok (.iconst 0, 1) := by decide +kernel
theorem dX13_way_139 : decode cX13_way 139 = .ok (.ireturn, 1) := by decide +kernel
theorem dX13_way_140 : decode cX13_way 140 = .ok (.iconst 0, 1) := by decide +kernel
theorem dX13_way_141 : decode cX13_way 141 = .ok (.istore_n 3, 1) := by decide +kernel
theorem dX13_way_142 : decode cX13_way 142 = .ok (.iload_n 1, 1) := by decide +kernel
theorem dX13_way_143 : decode cX13_way 143 = .ok (.istore 4, 2) := by decide +kernel
theorem dX13_way_145 : decode cX13_way 145 = .ok (.aload_n 0, 1) := by decide +kernel
theorem dX13_way_146 : decode cX13_way 146 = .ok (.getfield 27, 3) := by decide +kernel
theorem dX13_way_149 : decode cX13_way 149 = .ok (.iconst 0, 1) := by decide +kernel
theorem dX13_way_150 : decode cX13_way 150 = .ok (.iload 4, 2) := by decide +kernel
theorem dX13_way_152 : decode cX13_way 152 = .ok (.iastore, 1) := by decide +kernel
theorem dX13_way_153 : decode cX13_way 153 = .ok (.iload 4, 2) := by decide +kernel
theorem dX13_way_155 : decode cX13_way 155 = .ok (.iload_n 2, 1) := by decide +kernel
theorem dX13_way_156 : decode cX13_way 156 = .ok (.if_icmp .eq 60, 3) := by decide +kernel
theorem dX13_way_159 : decode cX13_way 159 = .ok (.iconst 0, 1) := by decide +kernel
theorem dX13_way_160 : decode cX13_way 160 = .ok (.istore 5, 2) := by decide +kernel
theorem dX13_way_162 : decode cX13_way 162 = .ok (.aload_n 0, 1) := by decide +kernel
theorem dX13_way_163 : decode cX13_way 163 = .ok (.getfield 30, 3) := by decide +kernel
theorem dX13_way_166 : decode cX13_way 166 = .ok (.iload 5, 2) := by decide +kernel
theorem dX13_way_168 : decode cX13_way 168 = .ok (.iaload, 1) := by decide +kernel
theorem dX13_way_169 : decode cX13_way 169 = .ok (.aload_n 0, 1) := by decide +kernel
theorem dX13_way_170 : decode cX13_way 170 = .ok (.getfield 30, 3) := by decide +kernel
theorem dX13_way_173 : decode cX13_way 173 = .ok (.iload 4, 2) := by decide +kernel
theorem dX13_way_175 : decode cX13_way 175 = .ok (.iaload, 1) := by decide +kernel
theorem dX13_way_176 : decode cX13_way 176 = .ok (.iconst 1, 1) := by decide +kernel
theorem dX13_way_177 : decode cX13_way 177 = .ok (.isub, 1) := by decide +kernel
theorem dX13_way_178 : decode cX13_way 178 = .ok (.if_icmp .ne 14, 3) := by decide +kernel
theorem dX13_way_181 : decode cX13_way 181 = .ok (.aload_n 0, 1) := by decide +kernel
theorem dX13_way_182 : decode cX13_way 182 = .ok (.iload 4, 2) := by decide +kernel
theorem dX13_way_184 : decode cX13_way 184 = .ok (.iload 5, 2) := by decide +kernel
theorem dX13_way_186 : decode cX13_way 186 = .ok (.invokevirtual 107, 3) := by decide +kernel
theorem dX13_way_189 : decode cX13_way 189 = .ok (.ifCond .ne 9, 3) := by decide +kernel
theorem dX13_way_192 : decode cX13_way 192 = .ok (.iinc 5 1, 3) := by decide +kernel
theorem dX13_way_195 : decode cX13_way 195 = .ok (.goto (-33), 3) := by decide +kernel
theorem dX13_way_198 : decode cX13_way 198 = .ok (.iload 5, 2) := by decide +kernel
theorem dX13_way_200 : decode cX13_way 200 = .ok (.istore 4, 2) := by decide +kernel
theorem dX13_way_202 : decode cX13_way 202 = .ok (.iinc 3 1, 3) := by decide +kernel
theorem dX13_way_205 : decode cX13_way 205 = .ok (.aload_n 0, 1) := by decide +kernel
theorem dX13_way_206 : decode cX13_way 206 = .ok (.getfield 27, 3) := by decide +kernel
theorem dX13_way_209 : decode cX13_way 209 = .ok (.iload_n 3, 1) := by decide +kernel
theorem dX13_way_210 : decode cX13_way 210 = .ok (.iload 4, 2) := by decide +kernel
theorem dX13_way_212 : decode cX13_way 212 = .ok (.iastore, 1) := by decide +kernel
theorem dX13_way_213 : decode cX13_way 213 = .ok (.goto (-60), 3) := by decide +kernel
theorem dX13_way_216 : decode cX13_way 216 = .ok (.iload_n 3, 1) := by decide +kernel
theorem dX13_way_217 : decode cX13_way 217 = .ok (.iconst 1, 1) := by decide +kernel
theorem dX13_way_218 : decode cX13_way 218 = .ok (.iadd, 1) := by decide +kernel
theorem dX13_way_219 : decode cX13_way 219 = .ok (.ireturn, 1) := by decide +kernel
theorem dX13_join_0 : decode cX13_join 0 = .ok (.aload_n 0, 1) := by decide +kernel
theorem dX13_join_1 : decode cX13_join 1 = .ok (.iconst 0, 1) := by decide +kernel
theorem dX13_join_2 : decode cX13_join 2 = .ok (.putfield 55, 3) := by decide +kernel
theorem dX13_join_5 : decode cX13_join 5 = .ok (.aload_n 0, 1) := by decide +kernel
theorem dX13_join_6 : decode cX13_join 6 = .ok (.iconst 0, 1) := by decide +kernel
theorem dX13_join_7 : decode cX13_join 7 = .ok (.putfield 128, 3) := by decide +kernel
theorem dX13_join_10 : decode cX13_join 10 = .ok (.aload_n 0, 1) := by decide +kernel
theorem dX13_join_11 : decode cX13_join 11 = .ok (.iload_n 1, 1) := by decide +kernel
theorem dX13_join_12 : decode cX13_join 12 = .ok (.iload_n 2, 1) := by decide +kernel
theorem dX13_join_13 : decode cX13_join 13 = .ok (.invokevirtual 98, 3) := by decide +kernel
theorem dX13_join_16 : decode cX13_join 16 = .ok (.ifCond .eq 15, 3) := by decide +kernel
theorem dX13_join_19 : decode cX13_join 19 = .ok (.iload_n 3, 1) := by decide +kernel
theorem dX13_join_20 : decode cX13_join 20 = .ok (.ifCond .lt 11, 3) := by decide +kernel
theorem dX13_join_23 : decode cX13_join 23 = .ok (.iload_n 3, 1) := by decide +kernel
theorem dX13_join_24 : decode cX13_join 24 = .ok (.aload_n 0, 1) := by decide +kernel
theorem dX13_join_25 : decode cX13_join 25 = .ok (.getfield 89, 3) := by decide +kernel
theorem dX13_join_28 : decode cX13_join 28 = .ok (.if_icmp .lt 9, 3) := by decide +kernel
theorem dX13_join_31 : decode cX13_join 31 = .ok (.aload_n 0, 1) := by decide +kernel
theorem dX13_join_32 : decode cX13_join 32 = .ok (.iconst 1, 1) := by decide +kernel
theorem dX13_join_33 : decode cX13_join 33 = .ok (.invokevirtual 73, 3) := by decide +kernel
theorem dX13_join_36 : decode cX13_join 36 = .ok (.ireturn, 1) := by decide +kernel
theorem dX13_join_37 : decode cX13_join 37 = .ok (.aload_n 0, 1) := by decide +kernel
theorem dX13_join_38 : decode cX13_join 38 = .ok (.getfield 12, 3) := by decide +kernel
theorem dX13_join_41 : decode cX13_join 41 = .ok (.iload_n 1, 1) := by decide +kernel
theorem dX13_join_42 : decode cX13_join 42 = .ok (.aaload, 1) := by decide +kernel
theorem dX13_join_43 : decode cX13_join 43 = .ok (.astore 6, 2) := by decide +kernel
theorem dX13_join_45 : decode cX13_join 45 = .ok (.aload 6, 2) := by decide +kernel
theorem dX13_join_47 : decode cX13_join 47 = .ok (.iload 4, 2) := by decide +kernel
theorem dX13_join_49 : decode cX13_join 49 = .ok (.invokevirtual 131, 3) := by decide +kernel
theorem dX13_join_52 : decode cX13_join 52 = .ok (.ifCond .ne 9, 3) := by decide +kernel
theorem dX13_join_55 : decode cX13_join 55 = .ok (.aload_n 0, 1) := by decide +kernel
theorem dX13_join_56 : decode cX13_join 56 = .ok (.iconst 3, 1) := by decide +kernel
theorem dX13_join_57 : decode cX13_join 57 = .ok (.invokevirtual 73, 3) := by decide +kernel
theorem dX13_join_60 : decode cX13_join 60 = .ok (.ireturn, 1) := by decide +kernel
theorem dX13_join_61 : decode cX13_join 61 = .ok (.aload 6, 2) := by decide +kernel
theorem dX13_join_63 : decode cX13_join 63 = .ok (.getfield 92, 3) := by decide +kernel
theorem dX13_join_66 : decode cX13_join 66 = .ok (.iload_n 2, 1) := by decide +kernel
theorem dX13_join_67 : decode cX13_join 67 = .ok (.iaload, 1) := by decide +kernel
theorem dX13_join_68 : decode cX13_join 68 = .ok (.ifCond .ge 7, 3) := by decide +kernel
theorem dX13_join_71 : decode cX13_join 71 = .ok (.iconst 1, 1) := by decide +kernel
theorem dX13_join_72 : decode cX13_join 72 = .ok (.goto 4, 3) := by decide +kernel
theorem dX13_join_75 : decode cX13_join 75 = .ok (.iconst 0, 1) := by decide +kernel
theorem dX13_join_76 : decode cX13_join 76 = .ok (.istore 7, 2) := by decide +kernel
theorem dX13_join_78 : decode cX13_join 78 = .ok (.iconst 0, 1) := by decide +kernel
theorem dX13_join_79 : decode cX13_join 79 = .ok (.istore 8, 2) := by decide +kernel
theorem dX13_join_81 : decode cX13_join 81 = .ok (.iload 8, 2) := by decide +kernel
theorem dX13_join_83 : decode cX13_join 83 = .ok (.aload 6, 2) := by decide +kernel
theorem dX13_join_85 : decode cX13_join 85 = .ok (.getfield 68, 3) := by decide +kernel
theorem dX13_join_88 : decode cX13_join 88 = .ok (.if_icmp .ge 58, 3) := by decide +kernel
theorem dX13_join_91 : decode cX13_join 91 = .ok (.iload 7, 2) := by decide +kernel
theorem dX13_join_93 : decode cX13_join 93 = .ok (.ifCond .ne 40, 3) := by decide +kernel
theorem dX13_join_96 : decode cX13_join 96 = .ok (.aload 6, 2) := by decide +kernel
theorem dX13_join_98 : decode cX13_join 98 = .ok (.getfield 110, 3) := by decide +kernel
theorem dX13_join_101 : decode cX13_join 101 = .ok (.iload 8, 2) := by decide +kernel
theorem dX13_join_103 : decode cX13_join 103 = .ok (.iaload, 1) := by decide +kernel
theorem dX13_join_104 : decode cX13_join 104 = .ok (.iload_n 2, 1) := by decide +kernel
theorem dX13_join_105 : decode cX13_join 105 = .ok (.if_icmp .ne 32, 3) := by decide +kernel
theorem dX13_join_108 : decode cX13_join 108 = .ok (.aload 6, 2) := by decide +kernel
theorem dX13_join_110 : decode cX13_join 110 = .ok (.getfield 95, 3) := by decide +kernel
theorem dX13_join_113 : decode cX13_join 113 = .ok (.iload 8, 2) := by decide +kernel
theorem dX13_join_115 : decode cX13_join 115 = .ok (.iaload, 1) := by decide +kernel
theorem dX13_join_116 : decode cX13_join 116 = .ok (.iconst (-1), 1) := by decide +kernel
theorem dX13_join_117 : decode cX13_join 117 = .ok (.if_icmp .eq 16, 3) := by decide +kernel
theorem dX13_join_120 : decode cX13_join 120 = .ok (.aload 6, 2) := by decide +kernel
theorem dX13_join_122 : decode cX13_join 122 = .ok (.getfield 95, 3) := by decide +kernel
theorem dX13_join_125 : decode cX13_join 125 = .ok (.iload 8, 2) := by decide +kernel
theorem dX13_join_127 : decode cX13_join 127 = .ok (.iaload, 1) := by decide +kernel
theorem dX13_join_128 : decode cX13_join 128 = .ok (.iload 4, 2) := by decide +kernel
theorem dX13_join_130 : decode cX13_join 130 = .ok (.if_icmp .le 7, 3) := by decide +kernel
theorem dX13_join_133 : decode cX13_join 133 = .ok (.iconst 1, 1) := by decide +kernel
theorem dX13_join_134 : decode cX13_join 134 = .ok (.goto 4, 3) := by decide +kernel
theorem dX13_join_137 : decode cX13_join 137 = .ok (.iconst 0, 1) := by decide +kernel
theorem dX13_join_138 : decode cX13_join 138 = .ok (.istore 7, 2) := by decide +kernel
theorem dX13_join_140 : decode cX13_join 140 = .ok (.iinc 8 1, 3) := by decide +kernel
theorem dX13_join_143 : decode cX13_join 143 = .ok (.goto (-62), 3) := by decide +kernel
theorem dX13_join_146 : decode cX13_join 146 = .ok (.iload 7, 2) := by decide +kernel
theorem dX13_join_148 : decode cX13_join 148 = .ok (.ifCond .eq 9, 3) := by decide +kernel
theorem dX13_join_151 : decode cX13_join 151 = .ok (.aload_n 0, 1) := by decide +kernel
theorem dX13_join_152 : decode cX13_join 152 = .ok (.iconst 4, 1) := by decide +kernel
theorem dX13_join_153 : decode cX13_join 153 = .ok (.invokevirtual 73, 3) := by decide +kernel
theorem dX13_join_156 : decode cX13_join 156 = .ok (.ireturn, 1) := by decide +kernel
theorem dX13_join_157 : decode cX13_join 157 = .ok (.aload_n 0, 1) := by decide +kernel
theorem dX13_join_158 : decode cX13_join 158 = .ok (.getfield 20, 3) := by decide +kernel
theorem dX13_join_161 : decode cX13_join 161 = .ok (.iload_n 3, 1) := by decide +kernel
theorem dX13_join_162 : decode cX13_join 162 = .ok (.iaload, 1) := by decide +kernel
theorem dX13_join_163 : decode cX13_join 163 = .ok (.iconst 5, 1) := by decide +kernel
theorem dX13_join_164 : decode cX13_join 164 = .ok (.if_icmp .ne 32, 3) := by decide +kernel
theorem dX13_join_167 : decode cX13_join 167 = .ok (.aload_n 0, 1) := by decide +kernel
theorem dX13_join_168 : decode cX13_join 168 = .ok (.aload_n 0, 1) := by decide +kernel
theorem dX13_join_169 : decode cX13_join 169 = .ok (.iload_n 1, 1) := by decide +kernel
theorem dX13_join_170 : decode cX13_join 170 = .ok (.aload_n 0, 1) := by decide +kernel
theorem dX13_join_171 : decode cX13_join 171 = .ok (.getfield 24, 3) := by decide +kernel
theorem dX13_join_174 : decode cX13_join 174 = .ok (.iload_n 3, 1) := by decide +kernel
theorem dX13_join_175 : decode cX13_join 175 = .ok (.iaload, 1) := by decide +kernel
theorem dX13_join_176 : decode cX13_join 176 = .ok (.invokevirtual 134, 3) := by decide +kernel
theorem dX13_join_179 : decode cX13_join 179 = .ok (.putfield 128, 3) := by decide +kernel
theorem dX13_join_182 : decode cX13_join 182 = .ok (.aload_n 0, 1) := by decide +kernel
theorem dX13_join_183 : decode cX13_join 183 = .ok (.getfield 128, 3) := by decide +kernel
theorem dX13_join_186 : decode cX13_join 186 = .ok (.ifCond .le 10, 3) := by decide +kernel
theorem dX13_join_189 : decode cX13_join 189 = .ok (.aload_n 0, 1) := by decide +kernel
theorem dX13_join_190 : decode cX13_join 190 = .ok (.bipush 8, 2) := by decide +kernel
theorem dX13_join_192 : decode cX13_join 192 = .ok (.invokevirtual 73, 3) := by decide +kernel
theorem dX13_join_195 : decode cX13_join 195 = .ok (.ireturn, 1) := by decide +kernel
theorem dX13_join_196 : decode cX13_join 196 = .ok (.aload 6, 2) := by decide +kernel
theorem dX13_join_198 : decode cX13_join 198 = .ok (.getfield 68, 3) := by decide +kernel
theorem dX13_join_201 : decode cX13_join 201 = .ok (.bipush 24, 2) := by decide +kernel
theorem dX13_join_203 : decode cX13_join 203 = .ok (.if_icmp .ne 10, 3) := by decide +kernel
theorem dX13_join_206 : decode cX13_join 206 = .ok (.aload_n 0, 1) := by decide +kernel
theorem dX13_join_207 : decode cX13_join 207 = .ok (.bipush 9, 2) := by decide +kernel
theorem dX13_join_209 : decode cX13_join 209 = .ok (.invokevirtual 73, 3) := by decide +kernel
theorem dX13_join_212 : decode cX13_join 212 = .ok (.ireturn, 1) := by decide +kernel
theorem dX13_join_213 : decode cX13_join 213 = .ok (.aload_n 0, 1) := by decide +kernel
theorem dX13_join_214 : decode cX13_join 214 = .ok (.aload_n 0, 1) := by decide +kernel
theorem dX13_join_215 : decode cX13_join 215 = .ok (.aload 6, 2) := by decide +kernel
theorem dX13_join_217 : decode cX13_join 217 = .ok (.iload_n 2, 1) := by decide +kernel
theorem dX13_join_218 : decode cX13_join 218 = .ok (.iload_n 3, 1) := by decide +kernel
theorem dX13_join_219 : decode cX13_join 219 = .ok (.iload 4, 2) := by decide +kernel
theorem dX13_join_221 : decode cX13_join 221 = .ok (.iload 5, 2) := by decide +kernel
theorem dX13_join_223 : decode cX13_join 223 = .ok (.invokevirtual 138, 3) := by decide +kernel
theorem dX13_join_226 : decode cX13_join 226 = .ok (.invokevirtual 86, 3) := by decide +kernel
theorem dX13_join_229 : decode cX13_join 229 = .ok (.ireturn, 1) := by decide +kernel
theorem wd_886 : Cond.fieldLink RX13 30 RX13 "far" "[I" ∈ lw_good := mem_t6 70 (by decide +kernel) rfl
theorem wd_887 : Cond.methodLink RX13 107 yX13_owns ∈ lw_good := mem_t6 176 (by decide +kernel) rfl
theorem wd_888 : Cond.instanceMethod yX13_owns ∈ lw_good := mem_t6 178 (by decide +kernel) rfl
theorem wd_889 : Cond.selects RX13 yX13_owns yX13_owns ∈ lw_good := mem_p 32 (by decide +kernel) rfl
theorem wd_890 : Cond.code yX13_owns cX13_owns 6 (some .boolean) ∈ lw_good := mem_t6 179 rfl rfl
theorem wd_891 : Cond.methodLink RX13 134 yX13_way ∈ lw_good := mem_t6 172 (by decide +kernel) rfl
theorem wd_892 : Cond.instanceMethod yX13_way ∈ lw_good := mem_t6 174 (by decide +kernel) rfl
theorem wd_893 : Cond.selects RX13 yX13_way yX13_way ∈ lw_good := mem_p 31 (by decide +kernel) rfl
theorem wd_894 : Cond.code yX13_way cX13_way 6 (some .int) ∈ lw_good := mem_t6 175 rfl rfl
/-- whether House a owns a part of the b-th: from the tenures' partners -/
def hOf (M : Hp) (z1 b : Nat) : Nat := (RFc (M z1) b).getD 0
def wOf (M : Hp) (h : Nat) : Nat → Int32 := vA M (hF12 (M h))[19]?
def owT (fk ft fw : Nat → Int32) (a : Int32) (n : Nat) : Prop := ∃ t : Nat, t < n ∧ fk (fw t).toNatClampNeg = 5 ∧ ft (fw t).toNatClampNeg = a
def owS (M : Hp) (z1 z6 z7 : Nat) (a : Int32) (b : Nat) : Prop := owT (IFc (M z6)) (IFc (M z7)) (wOf M (hOf M z1 b)) a (fx M (hOf M z1 b) 10).toNat
def owW (M : Hp) (z1 z6 z7 : Nat) : Nat → Nat → Prop := fun a b => owS M z1 z6 z7 (nI a) b
theorem wOf_of {M : Hp} {h r n : Nat} {c : ClassId} {fs : List Value} {fw : Nat → Int32} (hM : M h = .inr (12, fs)) (h19 : fs[19]? = some (.ref r)) (hr : M r = .inl (c, n, .inl fw)) : wOf M h = fw := by
  show vA M (hF12 (M h))[19]? = fw
  rw [hM]
  show vA M fs[19]? = fw
  rw [h19]
  show IFc (M r) = fw
  rw [hr]
  rfl
theorem owS_of {M : Hp} {z1 z6 z7 b h n r m m6 m7 : Nat} {c c6 c7 : ClassId} {fs : List Value} {fk ft fw : Nat → Int32} {a : Int32} (e1 : RFc (M z1) b = some h) (hM : M h = .inr (12, fs)) (h10 : fs[10]? = some (.int (nI n))) (hn : n < 2147483648) (h19 : fs[19]? = some (.ref r)) (hr : M r = .inl (c, m, .inl fw)) (h6 : M z6 = .inl (c6, m6, .inl fk)) (h7 : M z7 = .inl (c7, m7, .inl ft)) : owS M z1 z6 z7 a b ↔ owT fk ft fw a n := by
  have e2 : hOf M z1 b = h := by
    unfold hOf
    rw [e1]
    rfl
  have e6 : IFc (M z6) = fk := by
    rw [h6]
    rfl
  have e7 : IFc (M z7) = ft := by
    rw [h7]
    rfl
  have e10 : (fx M h 10).toNat = n := by
    rw [fx_of hM rfl h10, nI_toInt hn]
    omega
  unfold owS
  rw [e2, e6, e7, e10, wOf_of hM h19 hr]
theorem owS.mv {cy : Nat → ClassId} {K : Kp} {L ts : List Nat} {M M1 : Hp} {z1 z6 z7 b : Nat} {a : Int32} (hW : WOM cy K L M) (i1 : isk K L z1 23 8) (i6 : isk K L z6 47 40) (i7 : isk K L z7 48 40) (hF : fr K L ts M M1) (ht : ∀ t ∈ ts, t ∉ [12, 23, 30, 47, 48]) (hb : b < 8) : owS M1 z1 z6 z7 a b ↔ owS M z1 z6 z7 a b := by
  have q1 : M1 z1 = M z1 := hF.at i1 (fun y => ht _ y (by decide))
  have q6 : M1 z6 = M z6 := hF.at i6 (fun y => ht _ y (by decide))
  have q7 : M1 z7 = M z7 := hF.at i7 (fun y => ht _ y (by decide))
  obtain ⟨f, h1, h2⟩ := hW.open_23 i1
  obtain ⟨h, h3, h4⟩ := h2 b hb
  have e1 : RFc (M z1) b = some h := by
    rw [h1]
    exact h3
  have e2 : hOf M z1 b = h := by
    unfold hOf
    rw [e1]
    rfl
  have e3 : hOf M1 z1 b = h := by
    unfold hOf
    rw [q1, e1]
    rfl
  have qh : M1 h = M h := hF.at h4 (fun y => ht _ y (by decide))
  obtain ⟨fs, hM, _, hfl⟩ := hW.open_12 h4
  obtain ⟨r, h19, ir⟩ : ∃ v : Nat, fs[19]? = some (.ref v : Value) ∧ isk K L v 30 24 := hfl 19 (by decide)
  obtain ⟨fw, hr, _⟩ := hW.open_30 ir
  have qr : M1 r = M r := hF.at ir (fun y => ht _ y (by decide))
  unfold owS
  rw [e2, e3, q6, q7, fx_int rfl qh, wOf_of (qh.trans hM) h19 (qr.trans hr), wOf_of hM h19 hr]
theorem owT0 {fk ft fw : Nat → Int32} {a : Int32} : ((0 : Int32) = 1 ↔ owT fk ft fw a 0) := ⟨fun h => absurd h (by decide), fun ⟨t, h, _⟩ => absurd h (Nat.not_lt_zero _)⟩
theorem owT1 {fk ft fw : Nat → Int32} {a : Int32} {n : Nat} (h : ((1 : Int32) = 1 ↔ owT fk ft fw a n)) : ((1 : Int32) = 1 ↔ owT fk ft fw a (n + 1)) := ⟨fun _ => by
  obtain ⟨t, h1, h2⟩ := h.mp rfl
  exact ⟨t, by omega, h2⟩, fun _ => rfl⟩
theorem owTn {fk ft fw : Nat → Int32} {a : Int32} {n : Nat} (h : ((0 : Int32) = 1 ↔ owT fk ft fw a n)) (hk : ¬ (fk (fw n).toNatClampNeg = 5 ∧ ft (fw n).toNatClampNeg = a)) : ((0 : Int32) = 1 ↔ owT fk ft fw a (n + 1)) := ⟨fun q => absurd q (by decide), fun ⟨t, h1, h2⟩ => by
  by_cases z : t = n
  · subst z
    exact absurd h2 hk
  · exact h.mpr ⟨t, by omega, h2⟩⟩
theorem owTy {fk ft fw : Nat → Int32} {a : Int32} {n : Nat} (h1 : fk (fw n).toNatClampNeg = 5) (h2 : ft (fw n).toNatClampNeg = a) : ((1 : Int32) = 1 ↔ owT fk ft fw a (n + 1)) := ⟨fun _ => ⟨n, by omega, h1, h2⟩, fun _ => rfl⟩
theorem clN {fw : Nat → Int32} {n : Nat} {v : Int32} (hn : n < 2147483648) (h : fw (nI n).toNatClampNeg = v) : fw n = v := by
  rw [nI_cl hn] at h
  exact h
/-- least distances, as the rounds of way() find them -/
def D0 (T : Int32) (k : Nat) : Nat := if nI k = T then 0 else 100
def LK (F : Nat → Int32) (D : Nat → Nat) : Prop := ∀ k, k < 8 → F k = nI (D k) ∧ D k ≤ 100
def BG (ow : Nat → Nat → Prop) (N : Nat) (T : Int32) (D : Nat → Nat) : Prop := (∀ k, k < 8 → D k = 0 → nI k = T) ∧ ∀ a, a < 8 → 0 < D a → D a < 100 → a < N ∧ ∃ b, b < N ∧ ow a b ∧ D b < D a
def B3 (ow : Nat → Nat → Prop) (N : Nat) (D : Nat → Nat) (r : Nat) : Prop := ∀ a b, a < N → b < N → ow a b → D b < r → D a ≤ D b + 1
def BJ (ow : Nat → Nat → Prop) (N : Nat) (D : Nat → Nat) (r a b : Nat) : Prop := ∀ x y, x < N → y < N → (x < a ∨ (x = a ∧ y < b)) → ow x y → D y ≤ r → D x ≤ D y + 1
theorem LK.fill {F : Nat → Int32} {T : Int32} (h : ∀ k : Nat, k < 8 → F k = nI (D0 T k)) : LK F (D0 T) := fun k hk => ⟨h k hk, by unfold D0; split <;> omega⟩
theorem filD {F : Nat → Int32} {T v : Int32} {i n : Nat} (h : ∀ k : Nat, k < n → F k = nI (D0 T k)) (hi : i = n) (hv : v = nI (D0 T n)) : ∀ k : Nat, k < n + 1 → upd F i v k = nI (D0 T k) := fun k hk => by
  by_cases z : k = i
  · rw [z, upd_self, hi]
    exact hv
  · rw [upd_ne _ _ z]
    exact h k (by omega)
theorem D0y {T : Int32} {n : Nat} (h : nI n = T) : (0 : Int32) = nI (D0 T n) := by
  unfold D0
  rw [if_pos h]
  rfl
theorem D0n {T : Int32} {n : Nat} (h : ¬ nI n = T) : (100 : Int32) = nI (D0 T n) := by
  unfold D0
  rw [if_neg h]
  rfl
theorem BG.fst (ow : Nat → Nat → Prop) (N : Nat) (T : Int32) : BG ow N T (D0 T) := ⟨fun k _ h => by
  unfold D0 at h
  split at h
  · assumption
  · omega, fun a _ h1 h2 => by
  unfold D0 at h1 h2
  by_cases q : nI a = T
  · rw [if_pos q] at h1
    omega
  · rw [if_neg q] at h2
    omega⟩
theorem B3.fst (ow : Nat → Nat → Prop) (N : Nat) (D : Nat → Nat) : B3 ow N D 0 := fun _ _ _ _ _ h => absurd h (Nat.not_lt_zero _)
theorem BJ.fst (ow : Nat → Nat → Prop) (N : Nat) (D : Nat → Nat) (r : Nat) : BJ ow N D r 0 0 := fun _ _ _ _ h => by omega
theorem LK.up {F : Nat → Int32} {D : Nat → Nat} {i a d : Nat} (h : LK F D) (hi : i = a) (hd : d ≤ 100) : LK (upd F i (nI d)) (va_up D a d) := fun k hk => by
  subst hi
  by_cases z : k = i
  · rw [z, upd_self, va_up_self]
    exact ⟨rfl, hd⟩
  · rw [upd_ne _ _ z, va_up_ne _ _ z]
    exact h k hk
theorem BJ.no {ow : Nat → Nat → Prop} {N r a b : Nat} {D : Nat → Nat} (hJ : BJ ow N D r a b) (h : ow a b → D a ≤ D b + 1) : BJ ow N D r a (b + 1) := fun x y hx hy q ho hd => by
  by_cases z : x = a ∧ y = b
  · obtain ⟨rfl, rfl⟩ := z
    exact h ho
  · exact hJ x y hx hy (by omega) ho hd
theorem BJ.row {ow : Nat → Nat → Prop} {N r a b : Nat} {D : Nat → Nat} (hJ : BJ ow N D r a b) (hb : N ≤ b) : BJ ow N D r (a + 1) 0 := fun x y hx hy q ho hd => hJ x y hx hy (by omega) ho hd
theorem B3.nxt {ow : Nat → Nat → Prop} {N r a : Nat} {D : Nat → Nat} (hJ : BJ ow N D r a 0) (ha : N ≤ a) : B3 ow N D (r + 1) := fun x y hx hy ho hd => hJ x y hx hy (by omega) ho (by omega)
theorem BFr {ow : Nat → Nat → Prop} {N r a b : Nat} {T : Int32} {D : Nat → Nat} (hN : N ≤ 8) (hG : BG ow N T D) (h3 : B3 ow N D r) (hJ : BJ ow N D r a b) (ha : a < N) (hb : b < N) (ho : ow a b) (hd : D b + 1 < D a) : BG ow N T (va_up D a (D b + 1)) ∧ B3 ow N (va_up D a (D b + 1)) r ∧ BJ ow N (va_up D a (D b + 1)) r a (b + 1) := by
  have hr : r ≤ D b := Nat.le_of_not_lt fun q => by
    have := h3 a b ha hb ho q
    omega
  have hs : va_up D a (D b + 1) a = D b + 1 := va_up_self _ _ _
  have hn : ∀ x, x ≠ a → va_up D a (D b + 1) x = D x := fun x q => va_up_ne _ _ q
  have hle : ∀ x, va_up D a (D b + 1) x ≤ D x := fun x => by
    by_cases z : x = a
    · rw [z, hs]
      omega
    · rw [hn x z]
      exact Nat.le_refl _
  have hba : b ≠ a := fun z => by
    rw [z] at hd
    omega
  refine ⟨⟨fun k hk h0 => ?_, fun x hx h0 h1 => ?_⟩, fun x y hx hy hxy h0 => ?_, fun x y hx hy q hxy h0 => ?_⟩
  · by_cases z : k = a
    · rw [z, hs] at h0
      omega
    · rw [hn k z] at h0
      exact hG.1 k hk h0
  · by_cases z : x = a
    · refine ⟨by omega, b, hb, by rw [z]; exact ho, ?_⟩
      rw [z, hs, hn b hba]
      omega
    · rw [hn x z] at h0 h1
      obtain ⟨g1, y, g2, g3, g4⟩ := hG.2 x hx h0 h1
      refine ⟨g1, y, g2, g3, ?_⟩
      rw [hn x z]
      have := hle y
      omega
  · by_cases z : y = a
    · rw [z, hs] at h0
      omega
    · rw [hn y z] at h0 ⊢
      have := h3 x y hx hy hxy h0
      have := hle x
      omega
  · by_cases z : y = a
    · rw [z, hs] at h0
      rw [z, hs]
      have : D b = r := by omega
      by_cases w : x = a
      · rw [w, hs]
        omega
      · omega
    · rw [hn y z] at h0 ⊢
      by_cases w : x = a ∧ y = b
      · rw [w.1, hs, w.2]
        exact Nat.le_refl _
      · have := hJ x y hx hy (by omega) hxy h0
        have := hle x
        omega
theorem exNext {P : Nat → Prop} {v b0 N : Nat} (h1 : v ≤ b0) (h2 : b0 < N) (hP : P b0) (hn : ¬ P v) : ∃ b, v + 1 ≤ b ∧ b < N ∧ P b := by
  rcases Nat.lt_or_ge v b0 with q | q
  · exact ⟨b0, q, h2, hP⟩
  · have e : b0 = v := by omega
    rw [e] at hP
    exact absurd hP hn
theorem sub_len : ∀ (vs L : List Nat), vs.Nodup → (∀ v, v ∈ vs → v ∈ L) → vs.length ≤ L.length := by
  intro vs
  induction vs with
  | nil => intro L _ _; exact Nat.zero_le _
  | cons v vs ih =>
    intro L hn hs
    have hv : v ∈ L := hs v (List.mem_cons_self)
    have h1 := List.nodup_cons.mp hn
    have h2 := ih (L.erase v) h1.2 (fun w hw => (List.mem_erase_of_ne (fun q => h1.1 (by rw [← q]; exact hw))).mpr (hs w (List.mem_cons_of_mem _ hw)))
    rw [List.length_erase_of_mem hv] at h2
    have h3 : 0 < L.length := List.length_pos_of_mem hv
    show vs.length + 1 ≤ L.length
    omega
theorem BFd {ow : Nat → Nat → Prop} {N : Nat} {T : Int32} {D : Nat → Nat} (hN : N ≤ 8) (hG : BG ow N T D) (h3 : B3 ow N D 8) : ∀ v a, a < 8 → D a = v → v < 100 → ∀ w, w ≤ v → w ≤ 8 → ∃ c, c < 8 ∧ D c = w := by
  intro v
  induction v using Nat.strongRecOn with
  | ind v ih =>
    intro a ha hv hv1 w hw hw8
    by_cases z : w = v
    · exact ⟨a, ha, by omega⟩
    · obtain ⟨g1, b, g2, g3, g4⟩ := hG.2 a ha (by omega) (by omega)
      by_cases q : w ≤ D b
      · exact ih (D b) (by omega) b (by omega) rfl (by omega) w q hw8
      · have := h3 a b g1 g2 g3 (by omega)
        omega
theorem BFw {ow : Nat → Nat → Prop} {N : Nat} {T : Int32} {D : Nat → Nat} (hN : N ≤ 8) (hG : BG ow N T D) (h3 : B3 ow N D 8) : ∀ a, a < 8 → 0 < D a → D a < 100 → D a ≤ 7 ∧ ∃ b, b < N ∧ ow a b ∧ D b + 1 = D a := by
  intro a ha h0 h1
  have h7 : D a ≤ 7 := Nat.le_of_not_lt fun q => by
    have hs := sub_len (List.range 9) ((List.range 8).map D) List.nodup_range (fun w hw => by
      have hw9 := List.mem_range.mp hw
      obtain ⟨c, hc, e⟩ := BFd hN hG h3 (D a) a ha rfl h1 w (by omega) (by omega)
      exact List.mem_map.mpr ⟨c, List.mem_range.mpr hc, e⟩)
    rw [List.length_map, List.length_range, List.length_range] at hs
    omega
  obtain ⟨g1, b, g2, g3, g4⟩ := hG.2 a ha h0 h1
  have := h3 a b g1 g2 g3 (by omega)
  exact ⟨h7, b, g2, g3, by omega⟩
set_option maxHeartbeats 4000000 in
set_option maxRecDepth 100000 in
theorem r_ownsS (l : Launch) (D : va_G) (cy : Nat → ClassId) (K : Kp) (L : List Nat) (M : Hp) (sz : Nat) (za : Nat) (z0 : Int32) (z1 : Nat) (z2 : Nat) (z3 : Nat) (z4 : Int32) (z5 : Int32) (z6 : Nat) (z7 : Nat) (z8 : Nat) (z9 : Nat) (z10 : Nat) (z11 : Nat) (z12 : Nat) (z13 : Nat) (z14 : Nat) (z15 : Nat) (z16 : Nat) (z17 : Nat) (z18 : Int32) (z19 : Nat) (k1 : Int32) (k2 : Nat) (hW : WOM cy K L M) (i1 : isk K L z1 23 8) (b2 : z2 ≤ 8) (b3 : z3 ≤ 40) (i6 : isk K L z6 47 40) (i7 : isk K L z7 48 40) (i8 : isk K L z8 49 8) (i9 : isk K L z9 50 8) (b10 : z10 ≤ 8) (i11 : isk K L z11 32 24) (i12 : isk K L z12 14 24) (i13 : isk K L z13 97 24) (i14 : isk K L z14 98 24) (i15 : isk K L z15 99 24) (b16 : z16 ≤ 24) (i17 : isk K L z17 14 24) (i19 : isk K L z19 15 25) (nk2 : k2 < 8) : Met l yX13_owns (wsM yX13_owns cX13_owns 6 (some .boolean)) ({ frames := 0, cells := 0, slots := 0, locals := 0 }) (va_Pc [.ref za, .int k1, .int (nI k2)] (PG D cy [(za, (b13_0 z0 z1 (nI z2) (nI z3) z4 z5 z6 z7 z8 z9 (nI z10) z11 z12 z13 z14 z15 (nI z16) z17 z18 z19))] L M sz)) (va_Qi (fun (r : Int32) (_ : Unit) => (r = 1 ∧ owS M z1 z6 z7 k1 k2) ∨ (r = 0 ∧ ¬ owS M z1 z6 z7 k1 k2)) (fun _ t => PQ D [(za, (b13_0 z0 z1 (nI z2) (nI z3) z4 z5 z6 z7 z8 z9 (nI z10) z11 z12 z13 z14 z15 (nI z16) z17 z18 z19))] L M (va_A ([(za, (b13_0 z0 z1 (nI z2) (nI z3) z4 z5 z6 z7 z8 z9 (nI z10) z11 z12 z13 z14 z15 (nI z16) z17 z18 z19))] ++ va_pl L M) sz) t) (va_A ([(za, (b13_0 z0 z1 (nI z2) (nI z3) z4 z5 z6 z7 z8 z9 (nI z10) z11 z12 z13 z14 z15 (nI z16) z17 z18 z19))] ++ va_pl L M) sz)) 0 0 (va_A ([(za, (b13_0 z0 z1 (nI z2) (nI z3) z4 z5 z6 z7 z8 z9 (nI z10) z11 z12 z13 z14 z15 (nI z16) z17 z18 z19))] ++ va_pl L M) sz) := by
  refine Met.ofW (cc := cX13_owns) (maxL := 6) (ret := (some .boolean)) (by decide) rfl ?_
  intro p e s m args below meth c s₁ B hml hv
  obtain ⟨rfl, hsz, hP, hK, hD0, hN⟩ := hv
  have hx := B.exec
  have hb := B.bytes
  have hr := B.returns
  have hts := atoms_spec (ws := (wsM yX13_owns cX13_owns 6 (some .boolean))) B.pre
  have hg : ∀ w ∈ lw_good, w.before _ s = true := fun w h => hts w (List.mem_cons_of_mem _ h)
  have hown : s.vm.findClass RX13 = some m.cls := findClass_of_methodNamed B.named
  have hlocks := B.notSynchronized
  subst hsz
  have hD := hD0.self (sz := s.heap.size)
  generalize hAe : va_A ([(za, (b13_0 z0 z1 (nI z2) (nI z3) z4 z5 z6 z7 z8 z9 (nI z10) z11 z12 z13 z14 z15 (nI z16) z17 z18 z19))] ++ va_pl L M) s.heap.size = A at hD ⊢
  have hA : ∀ q : Nat, s.heap.size ≤ q → A q := fun q h => by rw [← hAe]; exact Or.inr h
  have hS : va_S A s.heap s.heap [] := va_S.rf
  have hl := lv_entry ([.ref za, .int k1, .int (nI k2)]) (n := 6) (Nat.le_of_ble_eq_true rfl)
  rw [lg_entry_eq]
  generalize (lg_sl ([.ref za, .int k1, .int (nI k2)]) ++ List.replicate (6 - (lg_sl ([.ref za, .int k1, .int (nI k2)])).length) Slot.unset).toArray = ls at hl ⊢
  refine W.nameQ (fun Q hQ => ?_)
  refine W.nameR (fun R hR => ?_)
  have hRf : 0 ≤ R.frames := by rw [hR]; exact Nat.le_of_ble_eq_true rfl
  have hRl : 0 ≤ R.locals := by rw [hR]; exact Nat.le_of_ble_eq_true rfl
  have hRc : 0 ≤ R.cells := by rw [hR]; exact Nat.le_of_ble_eq_true rfl
  have hRs : 0 ≤ R.slots := by rw [hR]; exact Nat.le_of_ble_eq_true rfl
  have hl : lv_has ls 6 [(0, .ref za), (1, .int k1), (2, .int (nI k2))] := hl
  refine lv_aload_n hx hb dX13_owns_0 rfl (lv_at hl 0 rfl) ?_
  refine va_get (D := D) (ci := 13) (v := .ref z1) (C := RX13) (T := TX13) (N := 20) hx hb hg inG13 hown hK hP 0 rfl rfl 1 (by decide) (hg _ wd_739) (fun _ h9 => h9) rfl dX13_owns_1 ?_
  refine lv_iload_n hx hb dX13_owns_4 rfl (lv_at hl 2 rfl) ?_
  obtain ⟨f1, hM1, hf1⟩ := hW.open_23 i1
  have hi_2 : vp_in (nI k2) 8 := (inbN k2 8 (by omega) (by omega))
  refine pg_aldq hx hb hK hP i1.1 9 hM1 rfl hi_2 dX13_owns_5 ?_
  obtain ⟨b3, eb_4, hb_5⟩ := hf1 _ (vp_lt hi_2)
  rw [eb_4]
  refine lv_astore_n (lv' := [(3, .ref b3), (0, .ref za), (1, .int k1), (2, .int (nI k2))]) hx hb dX13_owns_6 rfl hl (by decide) rfl (fun ls hl => ?_)
  obtain ⟨fs6, hM6, hn6, hl6⟩ := hW.open_12 hb_5
  obtain ⟨v7, hv7, hc7⟩ : ∃ v : Nat, fs6[10]? = some (.int (nI v) : Value) ∧ v ≤ 24 := hl6 10 (by decide)
  obtain ⟨v8, hv8, hc8⟩ : ∃ v : Nat, fs6[19]? = some (.ref v : Value) ∧ isk K L v 30 24 := hl6 19 (by decide)
  obtain ⟨f9, hM9, hf9⟩ := hW.open_30 hc8
  obtain ⟨f10, hM10, hf10⟩ := hW.open_47 i6
  obtain ⟨f11, hM11⟩ := hW.open_48 i7
  have he1 : RFc (M z1) k2 = some b3 := by
    rw [show RFc (M z1) = f1 from by rw [hM1]; rfl]
    have h := eb_4
    rw [nI_cl (by omega)] at h
    exact h
  have hQo : owS M z1 z6 z7 k1 k2 ↔ owT f10 f11 f9 k1 v7 := owS_of he1 hM6 hv7 (by omega) hv8 hM9 hM10 hM11
  refine lv_iconst (v := 0) hx hb dX13_owns_7 (by decide) ?_
  refine lv_istore (lv' := [(4, .int 0), (3, .ref b3), (0, .ref za), (1, .int k1), (2, .int (nI k2))]) hx hb dX13_owns_8 hl (by decide) rfl (fun ls hl => ?_)
  refine lv_iconst (v := 0) hx hb dX13_owns_10 (by decide) ?_
  refine lv_istore (lv' := [(5, .int 0), (4, .int 0), (3, .ref b3), (0, .ref za), (1, .int k1), (2, .int (nI k2))]) hx hb dX13_owns_11 hl (by decide) rfl (fun ls hl => ?_)
  have key_12 : ∀ (fu_14 : Nat) (v4w15 : Int32) (v5w15 : Nat) (H_19 : Heap) (locs : List Loc) (ls : Array Slot), 24 - v5w15 < fu_14 → (v4w15 = 0 ∨ v4w15 = 1) → v5w15 ≤ v7 → (v4w15 = 1 ↔ owT f10 f11 f9 k1 v5w15) → WOM cy K L M → va_P D vwCl ([(za, (b13_0 z0 z1 (nI z2) (nI z3) z4 z5 z6 z7 z8 z9 (nI z10) z11 z12 z13 z14 z15 (nI z16) z17 z18 z19))] ++ va_pl L M) H_19 → va_D A ([(za, (b13_0 z0 z1 (nI z2) (nI z3) z4 z5 z6 z7 z8 z9 (nI z10) z11 z12 z13 z14 z15 (nI z16) z17 z18 z19))] ++ va_pl L M) → va_S A s.heap H_19 locs → lv_has ls 6 [(5, .int (nI v5w15)), (4, .int v4w15), (3, .ref b3), (0, .ref za), (1, .int k1), (2, .int (nI k2))] → W p l e R s m ([.ref za, .int k1, .int (nI k2)] : List Value).toArray below meth c H_19 locs 0 0 Q (F0 m 13 ls []) := by
    intro fu_14
    induction fu_14 with
    | zero => intro v4w15 v5w15 H_19 locs ls h; exact absurd h (Nat.not_lt_zero _)
    | succ fu_14 ih_13 =>
      intro v4w15 v5w15 H_19 locs ls hfu hq_16 hx_17 hx_18 hW hP hD hS hl
      rcases hq_16 with rfl | rfl
      · have hz := rfl (a := 0)
        refine lv_iload hx hb dX13_owns_13 (lv_at hl 0 rfl) ?_
        refine lv_aload_n hx hb dX13_owns_15 rfl (lv_at hl 2 rfl) ?_
        refine pg_getN (D := D) (ci := 12) (v := .int (nI v7)) (C := RX12) (T := TX12) (N := 51) hx hb hg inG12 hown hK hP hb_5.1 hM6 rfl 10 (by decide) (hN.use (Cond.fieldLinkNest RX13 68 RX12 "tenures" "I" RX13) 19 rfl rfl) (fun _ h9 => h9) hv7 dX13_owns_16 ?_
        refine lv_icmp_ge (tgt := 72) hx hb dX13_owns_19 (by decide) (fun c_20 => ?_) (fun c_20 => ?_)
        · have hz := rfl (a := 0)
          have n_21 : v7 ≤ v5w15 := (iLE (a := v7) (b := v5w15) (by omega) (by omega)).mp c_20
          refine lv_iload hx hb dX13_owns_72 (lv_at hl 1 rfl) ?_
          rw [hQ]
          exact W.zret (v := 0) hx hb hr rfl (fun t ht hW9 => ⟨⟨0, (), rfl, (Or.inr ⟨rfl, fun q => absurd (hx_18.mpr (by have h := hQo.mp q; rw [show v7 = v5w15 from by omega] at h; exact h)) (by decide)⟩), ⟨by rw [ht]; exact hP, hD⟩⟩, hS.F ht⟩) hS.2.2 dX13_owns_74
        · have hz := rfl (a := 0)
          have n_22 : ¬ (v7 ≤ v5w15) := fun q => c_20 ((iLE (a := v7) (b := v5w15) (by omega) (by omega)).mpr q)
          refine lv_iload hx hb dX13_owns_22 (lv_at hl 1 rfl) ?_
          refine lv_if_ne (tgt := 59) hx hb dX13_owns_24 (by decide) (fun c_23 => absurd c_23 (by decide)) (fun _ => ?_)
          refine lv_aload_n hx hb dX13_owns_27 rfl (lv_at hl 3 rfl) ?_
          refine va_get (D := D) (ci := 13) (v := .ref z6) (C := RX13) (T := TX13) (N := 20) hx hb hg inG13 hown hK hP 0 rfl rfl 6 (by decide) (hg _ wd_719) (fun _ h9 => h9) rfl dX13_owns_28 ?_
          refine lv_aload_n hx hb dX13_owns_31 rfl (lv_at hl 2 rfl) ?_
          refine pg_getN (D := D) (ci := 12) (v := .ref v8) (C := RX12) (T := TX12) (N := 51) hx hb hg inG12 hown hK hP hb_5.1 hM6 rfl 19 (by decide) (hN.use (Cond.fieldLinkNest RX13 72 RX12 "who" "[I" RX13) 28 rfl rfl) (fun _ h9 => h9) hv8 dX13_owns_32 ?_
          refine lv_iload hx hb dX13_owns_35 (lv_at hl 0 rfl) ?_
          have hi_24 : vp_in (nI v5w15) 24 := (inbN v5w15 24 (by omega) (by omega))
          refine pg_iald hx hb hK hP hc8.1 0 hM9 rfl hi_24 dX13_owns_37 ?_
          have hp_25 := hf9 _ (vp_lt hi_24)
          obtain ⟨c_26, hc_27, ec_28⟩ := hp_25
          rw [ec_28]
          have hi_29 : vp_in (nI c_26) 40 := (inbN c_26 40 (by omega) (by omega))
          refine pg_iald hx hb hK hP i6.1 0 hM10 rfl hi_29 dX13_owns_38 ?_
          have hp_30 := hf10 _ (vp_lt hi_29)
          obtain ⟨c_31, hc_32, ec_33⟩ := hp_30
          rw [ec_33]
          refine lv_iconst (v := 5) hx hb dX13_owns_39 (by decide) ?_
          refine lv_icmp_ne (tgt := 63) hx hb dX13_owns_40 (by decide) (fun c_34 => ?_) (fun c_34 => ?_)
          · have hz := rfl (a := 0)
            have n_35 : ¬ (c_31 = 5) := fun q => c_34 ((iEQ (a := c_31) (b := 5) (by omega) (by omega)).mpr q)
            refine lv_iconst (v := 0) hx hb dX13_owns_63 (by decide) ?_
            refine lv_istore (lv' := [(4, .int 0), (5, .int (nI v5w15)), (3, .ref b3), (0, .ref za), (1, .int k1), (2, .int (nI k2))]) hx hb dX13_owns_64 hl (by decide) rfl (fun ls hl => ?_)
            refine lv_iinc (v := (nI (v5w15 + 1))) (lv' := [(5, .int (nI (v5w15 + 1))), (4, .int 0), (3, .ref b3), (0, .ref za), (1, .int k1), (2, .int (nI k2))]) hx hb dX13_owns_66 hl (k := 1) rfl (nI_1 v5w15) (by decide) rfl (fun ls hl => ?_)
            refine lv_goto (tgt := 13) hx hb dX13_owns_69 (by decide) ?_
            exact ih_13 0 (v5w15 + 1) H_19 _ _ (by omega) (Or.inl rfl) (by omega) (owTn hx_18 (fun q => by have q1 := q.1; rw [clN (by omega) ec_28, ec_33] at q1; have q3 := (iEQ (a := c_31) (b := 5) (by omega) (by omega)).mp q1; omega)) hW hP hD hS (lv_sub hl [0, 1, 2, 3, 4, 5] rfl)
          · have hz := rfl (a := 0)
            have n_36 : c_31 = 5 := (iEQ (a := c_31) (b := 5) (by omega) (by omega)).mp c_34
            refine lv_aload_n hx hb dX13_owns_43 rfl (lv_at hl 3 rfl) ?_
            refine va_get (D := D) (ci := 13) (v := .ref z7) (C := RX13) (T := TX13) (N := 20) hx hb hg inG13 hown hK hP 0 rfl rfl 7 (by decide) (hg _ wd_760) (fun _ h9 => h9) rfl dX13_owns_44 ?_
            refine lv_aload_n hx hb dX13_owns_47 rfl (lv_at hl 2 rfl) ?_
            refine pg_getN (D := D) (ci := 12) (v := .ref v8) (C := RX12) (T := TX12) (N := 51) hx hb hg inG12 hown hK hP hb_5.1 hM6 rfl 19 (by decide) (hN.use (Cond.fieldLinkNest RX13 72 RX12 "who" "[I" RX13) 28 rfl rfl) (fun _ h9 => h9) hv8 dX13_owns_48 ?_
            refine lv_iload hx hb dX13_owns_51 (lv_at hl 0 rfl) ?_
            refine pg_iald hx hb hK hP hc8.1 0 hM9 rfl (inbN v5w15 24 (by omega) (by omega)) dX13_owns_53 ?_
            rw [ec_28]
            refine pg_iald hx hb hK hP i7.1 0 hM11 rfl (inbN c_26 40 (by omega) (by omega)) dX13_owns_54 ?_
            refine lv_topi (fun f_37 ef_37 => ?_)
            refine lv_iload_n hx hb dX13_owns_55 rfl (lv_at hl 4 rfl) ?_
            refine lv_icmp_ne (tgt := 63) hx hb dX13_owns_56 (by decide) (fun c_38 => ?_) (fun c_38 => ?_)
            · have hz := rfl (a := 0)
              refine lv_iconst (v := 0) hx hb dX13_owns_63 (by decide) ?_
              refine lv_istore (lv' := [(4, .int 0), (5, .int (nI v5w15)), (3, .ref b3), (0, .ref za), (1, .int k1), (2, .int (nI k2))]) hx hb dX13_owns_64 hl (by decide) rfl (fun ls hl => ?_)
              refine lv_iinc (v := (nI (v5w15 + 1))) (lv' := [(5, .int (nI (v5w15 + 1))), (4, .int 0), (3, .ref b3), (0, .ref za), (1, .int k1), (2, .int (nI k2))]) hx hb dX13_owns_66 hl (k := 1) rfl (nI_1 v5w15) (by decide) rfl (fun ls hl => ?_)
              refine lv_goto (tgt := 13) hx hb dX13_owns_69 (by decide) ?_
              exact ih_13 0 (v5w15 + 1) H_19 _ _ (by omega) (Or.inl rfl) (by omega) (owTn hx_18 (fun q => by have q2 := q.2; rw [clN (by omega) ec_28, ← ef_37] at q2; exact c_38 q2)) hW hP hD hS (lv_sub hl [0, 1, 2, 3, 4, 5] rfl)
            · have hz := rfl (a := 0)
              refine lv_iconst (v := 1) hx hb dX13_owns_59 (by decide) ?_
              refine lv_goto (tgt := 64) hx hb dX13_owns_60 (by decide) ?_
              refine lv_istore (lv' := [(4, .int 1), (5, .int (nI v5w15)), (3, .ref b3), (0, .ref za), (1, .int k1), (2, .int (nI k2))]) hx hb dX13_owns_64 hl (by decide) rfl (fun ls hl => ?_)
              refine lv_iinc (v := (nI (v5w15 + 1))) (lv' := [(5, .int (nI (v5w15 + 1))), (4, .int 1), (3, .ref b3), (0, .ref za), (1, .int k1), (2, .int (nI k2))]) hx hb dX13_owns_66 hl (k := 1) rfl (nI_1 v5w15) (by decide) rfl (fun ls hl => ?_)
              refine lv_goto (tgt := 13) hx hb dX13_owns_69 (by decide) ?_
              exact ih_13 1 (v5w15 + 1) H_19 _ _ (by omega) (Or.inr rfl) (by omega) (owTy (by rw [clN (by omega) ec_28, ec_33, show c_31 = 5 from by omega]; rfl) (by rw [clN (by omega) ec_28, ← ef_37]; exact c_38)) hW hP hD hS (lv_sub hl [0, 1, 2, 3, 4, 5] rfl)
      · have hz := rfl (a := 0)
        refine lv_iload hx hb dX13_owns_13 (lv_at hl 0 rfl) ?_
        refine lv_aload_n hx hb dX13_owns_15 rfl (lv_at hl 2 rfl) ?_
        refine pg_getN (D := D) (ci := 12) (v := .int (nI v7)) (C := RX12) (T := TX12) (N := 51) hx hb hg inG12 hown hK hP hb_5.1 hM6 rfl 10 (by decide) (hN.use (Cond.fieldLinkNest RX13 68 RX12 "tenures" "I" RX13) 19 rfl rfl) (fun _ h9 => h9) hv7 dX13_owns_16 ?_
        refine lv_icmp_ge (tgt := 72) hx hb dX13_owns_19 (by decide) (fun c_39 => ?_) (fun c_39 => ?_)
        · have hz := rfl (a := 0)
          have n_40 : v7 ≤ v5w15 := (iLE (a := v7) (b := v5w15) (by omega) (by omega)).mp c_39
          refine lv_iload hx hb dX13_owns_72 (lv_at hl 1 rfl) ?_
          rw [hQ]
          exact W.zret (v := 1) hx hb hr rfl (fun t ht hW9 => ⟨⟨1, (), rfl, (Or.inl ⟨rfl, hQo.mpr (by rw [show v7 = v5w15 from by omega]; exact hx_18.mp rfl)⟩), ⟨by rw [ht]; exact hP, hD⟩⟩, hS.F ht⟩) hS.2.2 dX13_owns_74
        · have hz := rfl (a := 0)
          have n_41 : ¬ (v7 ≤ v5w15) := fun q => c_39 ((iLE (a := v7) (b := v5w15) (by omega) (by omega)).mpr q)
          refine lv_iload hx hb dX13_owns_22 (lv_at hl 1 rfl) ?_
          refine lv_if_ne (tgt := 59) hx hb dX13_owns_24 (by decide) (fun _ => ?_) (fun c_42 => absurd c_42 (by decide))
          refine lv_iconst (v := 1) hx hb dX13_owns_59 (by decide) ?_
          refine lv_goto (tgt := 64) hx hb dX13_owns_60 (by decide) ?_
          refine lv_istore (lv' := [(4, .int 1), (5, .int (nI v5w15)), (3, .ref b3), (0, .ref za), (1, .int k1), (2, .int (nI k2))]) hx hb dX13_owns_64 hl (by decide) rfl (fun ls hl => ?_)
          refine lv_iinc (v := (nI (v5w15 + 1))) (lv' := [(5, .int (nI (v5w15 + 1))), (4, .int 1), (3, .ref b3), (0, .ref za), (1, .int k1), (2, .int (nI k2))]) hx hb dX13_owns_66 hl (k := 1) rfl (nI_1 v5w15) (by decide) rfl (fun ls hl => ?_)
          refine lv_goto (tgt := 13) hx hb dX13_owns_69 (by decide) ?_
          exact ih_13 1 (v5w15 + 1) H_19 _ _ (by omega) (Or.inr rfl) (by omega) (owT1 hx_18) hW hP hD hS (lv_sub hl [0, 1, 2, 3, 4, 5] rfl)
  exact key_12 (24 - 0 + 1) 0 0 s.heap _ _ (by omega) (Or.inl rfl) (by omega) owT0 hW hP hD hS (lv_sub hl [0, 1, 2, 3, 4, 5] rfl)
