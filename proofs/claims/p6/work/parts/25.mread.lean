theorem dX13_isTenure_0 : decode cX13_isTenure 0 = .ok (.aload_n 0, 1) := by decide +kernel
theorem dX13_isTenure_1 : decode cX13_isTenure 1 = .ok (.iload_n 1, 1) := by decide +kernel
theorem dX13_isTenure_2 : decode cX13_isTenure 2 = .ok (.invokevirtual 64, 3) := by decide +kernel
theorem dX13_isTenure_5 : decode cX13_isTenure 5 = .ok (.ifCond .eq 24, 3) := by decide +kernel
theorem dX13_isTenure_8 : decode cX13_isTenure 8 = .ok (.iload_n 2, 1) := by decide +kernel
theorem dX13_isTenure_9 : decode cX13_isTenure 9 = .ok (.ifCond .lt 20, 3) := by decide +kernel
theorem dX13_isTenure_12 : decode cX13_isTenure 12 = .ok (.iload_n 2, 1) := by decide +kernel
theorem dX13_isTenure_13 : decode cX13_isTenure 13 = .ok (.aload_n 0, 1) := by decide +kernel
theorem dX13_isTenure_14 : decode cX13_isTenure 14 = .ok (.getfield 12, 3) := by decide +kernel
theorem dX13_isTenure_17 : decode cX13_isTenure 17 = .ok (.iload_n 1, 1) := by decide +kernel
theorem dX13_isTenure_18 : decode cX13_isTenure 18 = .ok (.aaload, 1) := by decide +kernel
theorem dX13_isTenure_19 : decode cX13_isTenure 19 = .ok (.getfield 68, 3) := by decide +kernel
theorem dX13_isTenure_22 : decode cX13_isTenure 22 = .ok (.if_icmp .ge 7, 3) := by decide +kernel
theorem dX13_isTenure_25 : decode cX13_isTenure 25 = .ok (.iconst 1, 1) := by decide +kernel
theorem dX13_isTenure_26 : decode cX13_isTenure 26 = .ok (.goto 4, 3) := by decide +kernel
theorem dX13_isTenure_29 : decode cX13_isTenure 29 = .ok (.iconst 0, 1) := by decide +kernel
theorem dX13_isTenure_30 : decode cX13_isTenure 30 = .ok (.ireturn, 1) := by decide +kernel
theorem dX13_account_0 : decode cX13_account 0 = .ok (.aload_n 0, 1) := by decide +kernel
theorem dX13_account_1 : decode cX13_account 1 = .ok (.iconst 0, 1) := by decide +kernel
theorem dX13_account_2 : decode cX13_account 2 = .ok (.putfield 55, 3) := by decide +kernel
theorem dX13_account_5 : decode cX13_account 5 = .ok (.aload_n 0, 1) := by decide +kernel
theorem dX13_account_6 : decode cX13_account 6 = .ok (.iload_n 1, 1) := by decide +kernel
theorem dX13_account_7 : decode cX13_account 7 = .ok (.iload_n 2, 1) := by decide +kernel
theorem dX13_account_8 : decode cX13_account 8 = .ok (.invokevirtual 187, 3) := by decide +kernel
theorem dX13_account_11 : decode cX13_account 11 = .ok (.ifCond .ne 5, 3) := by decide +kernel
theorem dX13_account_14 : decode cX13_account 14 = .ok (.lconst 0, 1) := by decide +kernel
theorem dX13_account_15 : decode cX13_account 15 = .ok (.lreturn, 1) := by decide +kernel
theorem dX13_account_16 : decode cX13_account 16 = .ok (.aload_n 0, 1) := by decide +kernel
theorem dX13_account_17 : decode cX13_account 17 = .ok (.getfield 12, 3) := by decide +kernel
theorem dX13_account_20 : decode cX13_account 20 = .ok (.iload_n 1, 1) := by decide +kernel
theorem dX13_account_21 : decode cX13_account 21 = .ok (.aaload, 1) := by decide +kernel
theorem dX13_account_22 : decode cX13_account 22 = .ok (.astore 4, 2) := by decide +kernel
theorem dX13_account_24 : decode cX13_account 24 = .ok (.iload_n 3, 1) := by decide +kernel
theorem dX13_account_25 : decode cX13_account 25 = .ok (.tableswitch 99 0 6 #[43, 51, 59, 67, 75, 83, 91], 43) := by decide +kernel
theorem dX13_account_68 : decode cX13_account 68 = .ok (.aload 4, 2) := by decide +kernel
theorem dX13_account_70 : decode cX13_account 70 = .ok (.getfield 307, 3) := by decide +kernel
theorem dX13_account_73 : decode cX13_account 73 = .ok (.iload_n 2, 1) := by decide +kernel
theorem dX13_account_74 : decode cX13_account 74 = .ok (.laload, 1) := by decide +kernel
theorem dX13_account_75 : decode cX13_account 75 = .ok (.lreturn, 1) := by decide +kernel
theorem dX13_account_76 : decode cX13_account 76 = .ok (.aload 4, 2) := by decide +kernel
theorem dX13_account_78 : decode cX13_account 78 = .ok (.getfield 370, 3) := by decide +kernel
theorem dX13_account_81 : decode cX13_account 81 = .ok (.iload_n 2, 1) := by decide +kernel
theorem dX13_account_82 : decode cX13_account 82 = .ok (.laload, 1) := by decide +kernel
theorem dX13_account_83 : decode cX13_account 83 = .ok (.lreturn, 1) := by decide +kernel
theorem dX13_account_84 : decode cX13_account 84 = .ok (.aload 4, 2) := by decide +kernel
theorem dX13_account_86 : decode cX13_account 86 = .ok (.getfield 230, 3) := by decide +kernel
theorem dX13_account_89 : decode cX13_account 89 = .ok (.iload_n 2, 1) := by decide +kernel
theorem dX13_account_90 : decode cX13_account 90 = .ok (.laload, 1) := by decide +kernel
theorem dX13_account_91 : decode cX13_account 91 = .ok (.lreturn, 1) := by decide +kernel
theorem dX13_account_92 : decode cX13_account 92 = .ok (.aload 4, 2) := by decide +kernel
theorem dX13_account_94 : decode cX13_account 94 = .ok (.getfield 205, 3) := by decide +kernel
theorem dX13_account_97 : decode cX13_account 97 = .ok (.iload_n 2, 1) := by decide +kernel
theorem dX13_account_98 : decode cX13_account 98 = .ok (.laload, 1) := by decide +kernel
theorem dX13_account_99 : decode cX13_account 99 = .ok (.lreturn, 1) := by decide +kernel
theorem dX13_account_100 : decode cX13_account 100 = .ok (.aload 4, 2) := by decide +kernel
theorem dX13_account_102 : decode cX13_account 102 = .ok (.getfield 373, 3) := by decide +kernel
theorem dX13_account_105 : decode cX13_account 105 = .ok (.iload_n 2, 1) := by decide +kernel
theorem dX13_account_106 : decode cX13_account 106 = .ok (.laload, 1) := by decide +kernel
theorem dX13_account_107 : decode cX13_account 107 = .ok (.lreturn, 1) := by decide +kernel
theorem dX13_account_108 : decode cX13_account 108 = .ok (.aload 4, 2) := by decide +kernel
theorem dX13_account_110 : decode cX13_account 110 = .ok (.getfield 376, 3) := by decide +kernel
theorem dX13_account_113 : decode cX13_account 113 = .ok (.iload_n 2, 1) := by decide +kernel
theorem dX13_account_114 : decode cX13_account 114 = .ok (.laload, 1) := by decide +kernel
theorem dX13_account_115 : decode cX13_account 115 = .ok (.lreturn, 1) := by decide +kernel
theorem dX13_account_116 : decode cX13_account 116 = .ok (.aload 4, 2) := by decide +kernel
theorem dX13_account_118 : decode cX13_account 118 = .ok (.getfield 259, 3) := by decide +kernel
theorem dX13_account_121 : decode cX13_account 121 = .ok (.iload_n 2, 1) := by decide +kernel
theorem dX13_account_122 : decode cX13_account 122 = .ok (.laload, 1) := by decide +kernel
theorem dX13_account_123 : decode cX13_account 123 = .ok (.lreturn, 1) := by decide +kernel
theorem dX13_account_124 : decode cX13_account 124 = .ok (.lconst 0, 1) := by decide +kernel
theorem dX13_account_125 : decode cX13_account 125 = .ok (.lreturn, 1) := by decide +kernel
theorem dX13_tenure_0 : decode cX13_tenure 0 = .ok (.aload_n 0, 1) := by decide +kernel
theorem dX13_tenure_1 : decode cX13_tenure 1 = .ok (.iconst 0, 1) := by decide +kernel
theorem dX13_tenure_2 : decode cX13_tenure 2 = .ok (.putfield 55, 3) := by decide +kernel
theorem dX13_tenure_5 : decode cX13_tenure 5 = .ok (.aload_n 0, 1) := by decide +kernel
theorem dX13_tenure_6 : decode cX13_tenure 6 = .ok (.iload_n 1, 1) := by decide +kernel
theorem dX13_tenure_7 : decode cX13_tenure 7 = .ok (.iload_n 2, 1) := by decide +kernel
theorem dX13_tenure_8 : decode cX13_tenure 8 = .ok (.invokevirtual 187, 3) := by decide +kernel
theorem dX13_tenure_11 : decode cX13_tenure 11 = .ok (.ifCond .ne 5, 3) := by decide +kernel
theorem dX13_tenure_14 : decode cX13_tenure 14 = .ok (.iconst (-1), 1) := by decide +kernel
theorem dX13_tenure_15 : decode cX13_tenure 15 = .ok (.ireturn, 1) := by decide +kernel
theorem dX13_tenure_16 : decode cX13_tenure 16 = .ok (.aload_n 0, 1) := by decide +kernel
theorem dX13_tenure_17 : decode cX13_tenure 17 = .ok (.getfield 12, 3) := by decide +kernel
theorem dX13_tenure_20 : decode cX13_tenure 20 = .ok (.iload_n 1, 1) := by decide +kernel
theorem dX13_tenure_21 : decode cX13_tenure 21 = .ok (.aaload, 1) := by decide +kernel
theorem dX13_tenure_22 : decode cX13_tenure 22 = .ok (.astore 4, 2) := by decide +kernel
theorem dX13_tenure_24 : decode cX13_tenure 24 = .ok (.aload_n 0, 1) := by decide +kernel
theorem dX13_tenure_25 : decode cX13_tenure 25 = .ok (.getfield 20, 3) := by decide +kernel
theorem dX13_tenure_28 : decode cX13_tenure 28 = .ok (.aload 4, 2) := by decide +kernel
theorem dX13_tenure_30 : decode cX13_tenure 30 = .ok (.getfield 72, 3) := by decide +kernel
theorem dX13_tenure_33 : decode cX13_tenure 33 = .ok (.iload_n 2, 1) := by decide +kernel
theorem dX13_tenure_34 : decode cX13_tenure 34 = .ok (.iaload, 1) := by decide +kernel
theorem dX13_tenure_35 : decode cX13_tenure 35 = .ok (.iaload, 1) := by decide +kernel
theorem dX13_tenure_36 : decode cX13_tenure 36 = .ok (.istore 5, 2) := by decide +kernel
theorem dX13_tenure_38 : decode cX13_tenure 38 = .ok (.iload_n 3, 1) := by decide +kernel
theorem dX13_tenure_39 : decode cX13_tenure 39 = .ok (.tableswitch 143 0 7 #[45, 53, 61, 69, 77, 93, 116, 124], 45) := by decide +kernel
theorem dX13_tenure_84 : decode cX13_tenure 84 = .ok (.aload 4, 2) := by decide +kernel
theorem dX13_tenure_86 : decode cX13_tenure 86 = .ok (.getfield 72, 3) := by decide +kernel
theorem dX13_tenure_89 : decode cX13_tenure 89 = .ok (.iload_n 2, 1) := by decide +kernel
theorem dX13_tenure_90 : decode cX13_tenure 90 = .ok (.iaload, 1) := by decide +kernel
theorem dX13_tenure_91 : decode cX13_tenure 91 = .ok (.ireturn, 1) := by decide +kernel
theorem dX13_tenure_92 : decode cX13_tenure 92 = .ok (.aload 4, 2) := by decide +kernel
theorem dX13_tenure_94 : decode cX13_tenure 94 = .ok (.getfield 110, 3) := by decide +kernel
theorem dX13_tenure_97 : decode cX13_tenure 97 = .ok (.iload_n 2, 1) := by decide +kernel
theorem dX13_tenure_98 : decode cX13_tenure 98 = .ok (.iaload, 1) := by decide +kernel
theorem dX13_tenure_99 : decode cX13_tenure 99 = .ok (.ireturn, 1) := by decide +kernel
theorem dX13_tenure_100 : decode cX13_tenure 100 = .ok (.aload 4, 2) := by decide +kernel
theorem dX13_tenure_102 : decode cX13_tenure 102 = .ok (.getfield 112, 3) := by decide +kernel
theorem dX13_tenure_105 : decode cX13_tenure 105 = .ok (.iload_n 2, 1) := by decide +kernel
theorem dX13_tenure_106 : decode cX13_tenure 106 = .ok (.iaload, 1) := by decide +kernel
theorem dX13_tenure_107 : decode cX13_tenure 107 = .ok (.ireturn, 1) := by decide +kernel
theorem dX13_tenure_108 : decode cX13_tenure 108 = .ok (.aload 4, 2) := by decide +kernel
theorem dX13_tenure_110 : decode cX13_tenure 110 = .ok (.getfield 95, 3) := by decide +kernel
theorem dX13_tenure_113 : decode cX13_tenure 113 = .ok (.iload_n 2, 1) := by decide +kernel
theorem dX13_tenure_114 : decode cX13_tenure 114 = .ok (.iaload, 1) := by decide +kernel
theorem dX13_tenure_115 : decode cX13_tenure 115 = .ok (.ireturn, 1) := by decide +kernel
theorem dX13_tenure_116 : decode cX13_tenure 116 = .ok (.aload 4, 2) := by decide +kernel
theorem dX13_tenure_118 : decode cX13_tenure 118 = .ok (.getfield 124, 3) := by decide +kernel
theorem dX13_tenure_121 : decode cX13_tenure 121 = .ok (.iload_n 2, 1) := by decide +kernel
theorem dX13_tenure_122 : decode cX13_tenure 122 = .ok (.baload, 1) := by decide +kernel
theorem dX13_tenure_123 : decode cX13_tenure 123 = .ok (.ifCond .eq 7, 3) := by decide +kernel
theorem dX13_tenure_126 : decode cX13_tenure 126 = .ok (.iconst 1, 1) := by decide +kernel
theorem dX13_tenure_127 : decode cX13_tenure 127 = .ok (.goto 4, 3) := by decide +kernel
theorem dX13_tenure_130 : decode cX13_tenure 130 = .ok (.iconst 0, 1) := by decide +kernel
theorem dX13_tenure_131 : decode cX13_tenure 131 = .ok (.ireturn, 1) := by decide +kernel
theorem dX13_tenure_132 : decode cX13_tenure 132 = .ok (.aload 4, 2) := by decide +kernel
theorem dX13_tenure_134 : decode cX13_tenure 134 = .ok (.getfield 95, 3) := by decide +kernel
theorem dX13_tenure_137 : decode cX13_tenure 137 = .ok (.iload_n 2, 1) := by decide +kernel
theorem dX13_tenure_138 : decode cX13_tenure 138 = .ok (.iaload, 1) := by decide +kernel
theorem dX13_tenure_139 : decode cX13_tenure 139 = .ok (.iconst (-1), 1) := by decide +kernel
theorem dX13_tenure_140 : decode cX13_tenure 140 = .ok (.if_icmp .ne 7, 3) := by decide +kernel
theorem dX13_tenure_143 : decode cX13_tenure 143 = .ok (.iconst 0, 1) := by decide +kernel
theorem dX13_tenure_144 : decode cX13_tenure 144 = .ok (.goto 10, 3) := by decide +kernel
theorem dX13_tenure_147 : decode cX13_tenure 147 = .ok (.aload 4, 2) := by decide +kernel
theorem dX13_tenure_149 : decode cX13_tenure 149 = .ok (.getfield 115, 3) := by decide +kernel
theorem dX13_tenure_152 : decode cX13_tenure 152 = .ok (.iload_n 2, 1) := by decide +kernel
theorem dX13_tenure_153 : decode cX13_tenure 153 = .ok (.iaload, 1) := by decide +kernel
theorem dX13_tenure_154 : decode cX13_tenure 154 = .ok (.ireturn, 1) := by decide +kernel
theorem dX13_tenure_155 : decode cX13_tenure 155 = .ok (.aload 4, 2) := by decide +kernel
theorem dX13_tenure_157 : decode cX13_tenure 157 = .ok (.getfield 121, 3) := by decide +kernel
theorem dX13_tenure_160 : decode cX13_tenure 160 = .ok (.iload_n 2, 1) := by decide +kernel
theorem dX13_tenure_161 : decode cX13_tenure 161 = .ok (.iaload, 1) := by decide +kernel
theorem dX13_tenure_162 : decode cX13_tenure 162 = .ok (.ireturn, 1) := by decide +kernel
theorem dX13_tenure_163 : decode cX13_tenure 163 = .ok (.iload 5, 2) := by decide +kernel
theorem dX13_tenure_165 : decode cX13_tenure 165 = .ok (.iconst 2, 1) := by decide +kernel
theorem dX13_tenure_166 : decode cX13_tenure 166 = .ok (.if_icmp .eq 9, 3) := by decide +kernel
theorem dX13_tenure_169 : decode cX13_tenure 169 = .ok (.iload 5, 2) := by decide +kernel
theorem dX13_tenure_171 : decode cX13_tenure 171 = .ok (.iconst 4, 1) := by decide +kernel
theorem dX13_tenure_172 : decode cX13_tenure 172 = .ok (.if_icmp .ne 7, 3) := by decide +kernel
theorem dX13_tenure_175 : decode cX13_tenure 175 = .ok (.iconst (-1), 1) := by decide +kernel
theorem dX13_tenure_176 : decode cX13_tenure 176 = .ok (.goto 5, 3) := by decide +kernel
theorem dX13_tenure_179 : decode cX13_tenure 179 = .ok (.iload 5, 2) := by decide +kernel
theorem dX13_tenure_181 : decode cX13_tenure 181 = .ok (.ireturn, 1) := by decide +kernel
theorem dX13_tenure_182 : decode cX13_tenure 182 = .ok (.iconst (-1), 1) := by decide +kernel
theorem dX13_tenure_183 : decode cX13_tenure 183 = .ok (.ireturn, 1) := by decide +kernel
theorem dX13_who_0 : decode cX13_who 0 = .ok (.aload_n 0, 1) := by decide +kernel
theorem dX13_who_1 : decode cX13_who 1 = .ok (.iconst 0, 1) := by decide +kernel
theorem dX13_who_2 : decode cX13_who 2 = .ok (.putfield 55, 3) := by decide +kernel
theorem dX13_who_5 : decode cX13_who 5 = .ok (.aload_n 0, 1) := by decide +kernel
theorem dX13_who_6 : decode cX13_who 6 = .ok (.iload_n 1, 1) := by decide +kernel
theorem dX13_who_7 : decode cX13_who 7 = .ok (.iload_n 2, 1) := by decide +kernel
theorem dX13_who_8 : decode cX13_who 8 = .ok (.invokevirtual 98, 3) := by decide +kernel
theorem dX13_who_11 : decode cX13_who 11 = .ok (.ifCond .ne 5, 3) := by decide +kernel
theorem dX13_who_14 : decode cX13_who 14 = .ok (.iconst (-1), 1) := by decide +kernel
theorem dX13_who_15 : decode cX13_who 15 = .ok (.ireturn, 1) := by decide +kernel
theorem dX13_who_16 : decode cX13_who 16 = .ok (.aload_n 0, 1) := by decide +kernel
theorem dX13_who_17 : decode cX13_who 17 = .ok (.getfield 12, 3) := by decide +kernel
theorem dX13_who_20 : decode cX13_who 20 = .ok (.iload_n 1, 1) := by decide +kernel
theorem dX13_who_21 : decode cX13_who 21 = .ok (.aaload, 1) := by decide +kernel
theorem dX13_who_22 : decode cX13_who 22 = .ok (.astore 4, 2) := by decide +kernel
theorem dX13_who_24 : decode cX13_who 24 = .ok (.iconst (-1), 1) := by decide +kernel
theorem dX13_who_25 : decode cX13_who 25 = .ok (.istore 5, 2) := by decide +kernel
theorem dX13_who_27 : decode cX13_who 27 = .ok (.iconst 0, 1) := by decide +kernel
theorem dX13_who_28 : decode cX13_who 28 = .ok (.istore 6, 2) := by decide +kernel
theorem dX13_who_30 : decode cX13_who 30 = .ok (.iload 6, 2) := by decide +kernel
theorem dX13_who_32 : decode cX13_who 32 = .ok (.aload 4, 2) := by decide +kernel
theorem dX13_who_34 : decode cX13_who 34 = .ok (.getfield 68, 3) := by decide +kernel
theorem dX13_who_37 : decode cX13_who 37 = .ok (.if_icmp .ge 36, 3) := by decide +kernel
theorem dX13_who_40 : decode cX13_who 40 = .ok (.aload 4, 2) := by decide +kernel
theorem dX13_who_42 : decode cX13_who 42 = .ok (.getfield 110, 3) := by decide +kernel
theorem dX13_who_45 : decode cX13_who 45 = .ok (.iload 6, 2) := by decide +kernel
theorem dX13_who_47 : decode cX13_who 47 = .ok (.iaload, 1) := by decide +kernel
theorem dX13_who_48 : decode cX13_who 48 = .ok (.iload_n 2, 1) := by decide +kernel
theorem dX13_who_49 : decode cX13_who 49 = .ok (.if_icmp .ne 18, 3) := by decide +kernel
theorem dX13_who_52 : decode cX13_who 52 = .ok (.aload 4, 2) := by decide +kernel
theorem dX13_who_54 : decode cX13_who 54 = .ok (.iload 6, 2) := by decide +kernel
theorem dX13_who_56 : decode cX13_who 56 = .ok (.iload_n 3, 1) := by decide +kernel
theorem dX13_who_57 : decode cX13_who 57 = .ok (.invokevirtual 190, 3) := by decide +kernel
theorem dX13_who_60 : decode cX13_who 60 = .ok (.ifCond .eq 7, 3) := by decide +kernel
theorem dX13_who_63 : decode cX13_who 63 = .ok (.iload 6, 2) := by decide +kernel
theorem dX13_who_65 : decode cX13_who 65 = .ok (.istore 5, 2) := by decide +kernel
theorem dX13_who_67 : decode cX13_who 67 = .ok (.iinc 6 1, 3) := by decide +kernel
theorem dX13_who_70 : decode cX13_who 70 = .ok (.goto (-40), 3) := by decide +kernel
theorem dX13_who_73 : decode cX13_who 73 = .ok (.iload 5, 2) := by decide +kernel
theorem dX13_who_75 : decode cX13_who 75 = .ok (.ireturn, 1) := by decide +kernel
theorem dX13_stretch__0 : decode cX13_stretch_ 0 = .ok (.aload_n 0, 1) := by decide +kernel
theorem dX13_stretch__1 : decode cX13_stretch_ 1 = .ok (.iconst 0, 1) := by decide +kernel
theorem dX13_stretch__2 : decode cX13_stretch_ 2 = .ok (.putfield 55, 3) := by decide +kernel
theorem dX13_stretch__5 : decode cX13_stretch_ 5 = .ok (.aload_n 0, 1) := by decide +kernel
theorem dX13_stretch__6 : decode cX13_stretch_ 6 = .ok (.iload_n 1, 1) := by decide +kernel
theorem dX13_stretch__7 : decode cX13_stretch_ 7 = .ok (.invokevirtual 64, 3) := by decide +kernel
theorem dX13_stretch__10 : decode cX13_stretch_ 10 = .ok (.ifCond .eq 20, 3) := by decide +kernel
theorem dX13_stretch__13 : decode cX13_stretch_ 13 = .ok (.iload_n 2, 1) := by decide +kernel
theorem dX13_stretch__14 : decode cX13_stretch_ 14 = .ok (.ifCond .lt 16, 3) := by decide +kernel
theorem dX13_stretch__17 : decode cX13_stretch_ 17 = .ok (.iload_n 2, 1) := by decide +kernel
theorem dX13_stretch__18 : decode cX13_stretch_ 18 = .ok (.aload_n 0, 1) := by decide +kernel
theorem dX13_stretch__19 : decode cX13_stretch_ 19 = .ok (.getfield 12, 3) := by decide +kernel
theorem dX13_stretch__22 : decode cX13_stretch_ 22 = .ok (.iload_n 1, 1) := by decide +kernel
theorem dX13_stretch__23 : decode cX13_stretch_ 23 = .ok (.aaload, 1) := by decide +kernel
theorem dX13_stretch__24 : decode cX13_stretch_ 24 = .ok (.getfield 256, 3) := by decide +kernel
theorem dX13_stretch__27 : decode cX13_stretch_ 27 = .ok (.if_icmp .lt 5, 3) := by decide +kernel
theorem dX13_stretch__30 : decode cX13_stretch_ 30 = .ok (.lconst 0, 1) := by decide +kernel
theorem dX13_stretch__31 : decode cX13_stretch_ 31 = .ok (.lreturn, 1) := by decide +kernel
theorem dX13_stretch__32 : decode cX13_stretch_ 32 = .ok (.aload_n 0, 1) := by decide +kernel
theorem dX13_stretch__33 : decode cX13_stretch_ 33 = .ok (.getfield 12, 3) := by decide +kernel
theorem dX13_stretch__36 : decode cX13_stretch_ 36 = .ok (.iload_n 1, 1) := by decide +kernel
theorem dX13_stretch__37 : decode cX13_stretch_ 37 = .ok (.aaload, 1) := by decide +kernel
theorem dX13_stretch__38 : decode cX13_stretch_ 38 = .ok (.astore 4, 2) := by decide +kernel
theorem dX13_stretch__40 : decode cX13_stretch_ 40 = .ok (.iload_n 3, 1) := by decide +kernel
theorem dX13_stretch__41 : decode cX13_stretch_ 41 = .ok (.tableswitch 90 0 5 #[39, 48, 57, 65, 73, 81], 39) := by decide +kernel
theorem dX13_stretch__80 : decode cX13_stretch_ 80 = .ok (.aload 4, 2) := by decide +kernel
theorem dX13_stretch__82 : decode cX13_stretch_ 82 = .ok (.getfield 265, 3) := by decide +kernel
theorem dX13_stretch__85 : decode cX13_stretch_ 85 = .ok (.iload_n 2, 1) := by decide +kernel
theorem dX13_stretch__86 : decode cX13_stretch_ 86 = .ok (.iaload, 1) := by decide +kernel
theorem dX13_stretch__87 : decode cX13_stretch_ 87 = .ok (.i2l, 1) := by decide +kernel
theorem dX13_stretch__88 : decode cX13_stretch_ 88 = .ok (.lreturn, 1) := by decide +kernel
theorem dX13_stretch__89 : decode cX13_stretch_ 89 = .ok (.aload 4, 2) := by decide +kernel
theorem dX13_stretch__91 : decode cX13_stretch_ 91 = .ok (.getfield 268, 3) := by decide +kernel
theorem dX13_stretch__94 : decode cX13_stretch_ 94 = .ok (.iload_n 2, 1) := by decide +kernel
theorem dX13_stretch__95 : decode cX13_stretch_ 95 = .ok (.iaload, 1) := by decide +kernel
theorem dX13_stretch__96 : decode cX13_stretch_ 96 = .ok (.i2l, 1) := by decide +kernel
theorem dX13_stretch__97 : decode cX13_stretch_ 97 = .ok (.lreturn, 1) := by decide +kernel
theorem dX13_stretch__98 : decode cX13_stretch_ 98 = .ok (.aload 4, 2) := by decide +kernel
theorem dX13_stretch__100 : decode cX13_stretch_ 100 = .ok (.getfield 301, 3) := by decide +kernel
theorem dX13_stretch__103 : decode cX13_stretch_ 103 = .ok (.iload_n 2, 1) := by decide +kernel
theorem dX13_stretch__104 : decode cX13_stretch_ 104 = .ok (.laload, 1) := by decide +kernel
theorem dX13_stretch__105 : decode cX13_stretch_ 105 = .ok (.lreturn, 1) := by decide +kernel
theorem dX13_stretch__106 : decode cX13_stretch_ 106 = .ok (.aload 4, 2) := by decide +kernel
theorem dX13_stretch__108 : decode cX13_stretch_ 108 = .ok (.getfield 304, 3) := by decide +kernel
theorem dX13_stretch__111 : decode cX13_stretch_ 111 = .ok (.iload_n 2, 1) := by decide +kernel
theorem dX13_stretch__112 : decode cX13_stretch_ 112 = .ok (.laload, 1) := by decide +kernel
theorem dX13_stretch__113 : decode cX13_stretch_ 113 = .ok (.lreturn, 1) := by decide +kernel
theorem dX13_stretch__114 : decode cX13_stretch_ 114 = .ok (.aload 4, 2) := by decide +kernel
theorem dX13_stretch__116 : decode cX13_stretch_ 116 = .ok (.getfield 315, 3) := by decide +kernel
theorem dX13_stretch__119 : decode cX13_stretch_ 119 = .ok (.iload_n 2, 1) := by decide +kernel
theorem dX13_stretch__120 : decode cX13_stretch_ 120 = .ok (.laload, 1) := by decide +kernel
theorem dX13_stretch__121 : decode cX13_stretch_ 121 = .ok (.lreturn, 1) := by decide +kernel
theorem dX13_stretch__122 : decode cX13_stretch_ 122 = .ok (.aload 4, 2) := by decide +kernel
theorem dX13_stretch__124 : decode cX13_stretch_ 124 = .ok (.getfield 318, 3) := by decide +kernel
theorem dX13_stretch__127 : decode cX13_stretch_ 127 = .ok (.iload_n 2, 1) := by decide +kernel
theorem dX13_stretch__128 : decode cX13_stretch_ 128 = .ok (.iaload, 1) := by decide +kernel
theorem dX13_stretch__129 : decode cX13_stretch_ 129 = .ok (.i2l, 1) := by decide +kernel
theorem dX13_stretch__130 : decode cX13_stretch_ 130 = .ok (.lreturn, 1) := by decide +kernel
theorem dX13_stretch__131 : decode cX13_stretch_ 131 = .ok (.lconst 0, 1) := by decide +kernel
theorem dX13_stretch__132 : decode cX13_stretch_ 132 = .ok (.lreturn, 1) := by decide +kernel
theorem dX13_due_0 : decode cX13_due 0 = .ok (.aload_n 0, 1) := by decide +kernel
theorem dX13_due_1 : decode cX13_due 1 = .ok (.iconst 0, 1) := by decide +kernel
theorem dX13_due_2 : decode cX13_due 2 = .ok (.putfield 55, 3) := by decide +kernel
theorem dX13_due_5 : decode cX13_due 5 = .ok (.aload_n 0, 1) := by decide +kernel
theorem dX13_due_6 : decode cX13_due 6 = .ok (.iload_n 1, 1) := by decide +kernel
theorem dX13_due_7 : decode cX13_due 7 = .ok (.iload_n 3, 1) := by decide +kernel
theorem dX13_due_8 : decode cX13_due 8 = .ok (.invokevirtual 187, 3) := by decide +kernel
theorem dX13_due_11 : decode cX13_due 11 = .ok (.ifCond .eq 39, 3) := by decide +kernel
theorem dX13_due_14 : decode cX13_due 14 = .ok (.iload_n 2, 1) := by decide +kernel
theorem dX13_due_15 : decode cX13_due 15 = .ok (.ifCond .lt 35, 3) := by decide +kernel
theorem dX13_due_18 : decode cX13_due 18 = .ok (.iload_n 2, 1) := by decide +kernel
theorem dX13_due_19 : decode cX13_due 19 = .ok (.aload_n 0, 1) := by decide +kernel
theorem dX13_due_20 : decode cX13_due 20 = .ok (.getfield 12, 3) := by decide +kernel
theorem dX13_due_23 : decode cX13_due 23 = .ok (.iload_n 1, 1) := by decide +kernel
theorem dX13_due_24 : decode cX13_due 24 = .ok (.aaload, 1) := by decide +kernel
theorem dX13_due_25 : decode cX13_due 25 = .ok (.getfield 256, 3) := by decide +kernel
theorem dX13_due_28 : decode cX13_due 28 = .ok (.if_icmp .ge 22, 3) := by decide +kernel
theorem dX13_due_31 : decode cX13_due 31 = .ok (.aload_n 0, 1) := by decide +kernel
theorem dX13_due_32 : decode cX13_due 32 = .ok (.getfield 12, 3) := by decide +kernel
theorem dX13_due_35 : decode cX13_due 35 = .ok (.iload_n 1, 1) := by decide +kernel
theorem dX13_due_36 : decode cX13_due 36 = .ok (.aaload, 1) := by decide +kernel
theorem dX13_due_37 : decode cX13_due 37 = .ok (.getfield 312, 3) := by decide +kernel
theorem dX13_due_40 : decode cX13_due 40 = .ok (.bipush 24, 2) := by decide +kernel
theorem dX13_due_42 : decode cX13_due 42 = .ok (.iload_n 2, 1) := by decide +kernel
theorem dX13_due_43 : decode cX13_due 43 = .ok (.imul, 1) := by decide +kernel
theorem dX13_due_44 : decode cX13_due 44 = .ok (.iload_n 3, 1) := by decide +kernel
theorem dX13_due_45 : decode cX13_due 45 = .ok (.iadd, 1) := by decide +kernel
theorem dX13_due_46 : decode cX13_due 46 = .ok (.laload, 1) := by decide +kernel
theorem dX13_due_47 : decode cX13_due 47 = .ok (.goto 4, 3) := by decide +kernel
theorem dX13_due_50 : decode cX13_due 50 = .ok (.lconst 0, 1) := by decide +kernel
theorem dX13_due_51 : decode cX13_due 51 = .ok (.lreturn, 1) := by decide +kernel
theorem dX13_told_0 : decode cX13_told 0 = .ok (.aload_n 0, 1) := by decide +kernel
theorem dX13_told_1 : decode cX13_told 1 = .ok (.iconst 0, 1) := by decide +kernel
theorem dX13_told_2 : decode cX13_told 2 = .ok (.putfield 55, 3) := by decide +kernel
theorem dX13_told_5 : decode cX13_told 5 = .ok (.aload_n 0, 1) := by decide +kernel
theorem dX13_told_6 : decode cX13_told 6 = .ok (.iload_n 1, 1) := by decide +kernel
theorem dX13_told_7 : decode cX13_told 7 = .ok (.invokevirtual 64, 3) := by decide +kernel
theorem dX13_told_10 : decode cX13_told 10 = .ok (.ifCond .ne 5, 3) := by decide +kernel
theorem dX13_told_13 : decode cX13_told 13 = .ok (.iconst (-1), 1) := by decide +kernel
theorem dX13_told_14 : decode cX13_told 14 = .ok (.ireturn, 1) := by decide +kernel
theorem dX13_told_15 : decode cX13_told 15 = .ok (.aload_n 0, 1) := by decide +kernel
theorem dX13_told_16 : decode cX13_told 16 = .ok (.getfield 12, 3) := by decide +kernel
theorem dX13_told_19 : decode cX13_told 19 = .ok (.iload_n 1, 1) := by decide +kernel
theorem dX13_told_20 : decode cX13_told 20 = .ok (.aaload, 1) := by decide +kernel
theorem dX13_told_21 : decode cX13_told 21 = .ok (.astore_n 3, 1) := by decide +kernel
theorem dX13_told_22 : decode cX13_told 22 = .ok (.iload_n 2, 1) := by decide +kernel
theorem dX13_told_23 : decode cX13_told 23 = .ok (.tableswitch 132 0 9 #[53, 58, 63, 68, 73, 78, 83, 88, 93, 98], 53) := by decide +kernel
theorem dX13_told_76 : decode cX13_told 76 = .ok (.aload_n 3, 1) := by decide +kernel
theorem dX13_told_77 : decode cX13_told 77 = .ok (.getfield 77, 3) := by decide +kernel
theorem dX13_told_80 : decode cX13_told 80 = .ok (.ireturn, 1) := by decide +kernel
theorem dX13_told_81 : decode cX13_told 81 = .ok (.aload_n 3, 1) := by decide +kernel
theorem dX13_told_82 : decode cX13_told 82 = .ok (.getfield 80, 3) := by decide +kernel
theorem dX13_told_85 : decode cX13_told 85 = .ok (.ireturn, 1) := by decide +kernel
theorem dX13_told_86 : decode cX13_told 86 = .ok (.aload_n 3, 1) := by decide +kernel
theorem dX13_told_87 : decode cX13_told 87 = .ok (.getfield 233, 3) := by decide +kernel
theorem dX13_told_90 : decode cX13_told 90 = .ok (.ireturn, 1) := by decide +kernel
theorem dX13_told_91 : decode cX13_told 91 = .ok (.aload_n 3, 1) := by decide +kernel
theorem dX13_told_92 : decode cX13_told 92 = .ok (.getfield 244, 3) := by decide +kernel
theorem dX13_told_95 : decode cX13_told 95 = .ok (.ireturn, 1) := by decide +kernel
theorem dX13_told_96 : decode cX13_told 96 = .ok (.aload_n 3, 1) := by decide +kernel
theorem dX13_told_97 : decode cX13_told 97 = .ok (.getfield 68, 3) := by decide +kernel
theorem dX13_told_100 : decode cX13_told 100 = .ok (.ireturn, 1) := by decide +kernel
theorem dX13_told_101 : decode cX13_told 101 = .ok (.aload_n 3, 1) := by decide +kernel
theorem dX13_told_102 : decode cX13_told 102 = .ok (.getfield 142, 3) := by decide +kernel
theorem dX13_told_105 : decode cX13_told 105 = .ok (.ireturn, 1) := by decide +kernel
theorem dX13_told_106 : decode cX13_told 106 = .ok (.aload_n 3, 1) := by decide +kernel
theorem dX13_told_107 : decode cX13_told 107 = .ok (.getfield 193, 3) := by decide +kernel
theorem dX13_told_110 : decode cX13_told 110 = .ok (.ireturn, 1) := by decide +kernel
theorem dX13_told_111 : decode cX13_told 111 = .ok (.aload_n 3, 1) := by decide +kernel
theorem dX13_told_112 : decode cX13_told 112 = .ok (.getfield 279, 3) := by decide +kernel
theorem dX13_told_115 : decode cX13_told 115 = .ok (.ireturn, 1) := by decide +kernel
theorem dX13_told_116 : decode cX13_told 116 = .ok (.aload_n 3, 1) := by decide +kernel
theorem dX13_told_117 : decode cX13_told 117 = .ok (.getfield 256, 3) := by decide +kernel
theorem dX13_told_120 : decode cX13_told 120 = .ok (.ireturn, 1) := by decide +kernel
theorem dX13_told_121 : decode cX13_told 121 = .ok (.aload_n 3, 1) := by decide +kernel
theorem dX13_told_122 : decode cX13_told 122 = .ok (.getfield 80, 3) := by decide +kernel
theorem dX13_told_125 : decode cX13_told 125 = .ok (.iconst 1, 1) := by decide +kernel
theorem dX13_told_126 : decode cX13_told 126 = .ok (.iadd, 1) := by decide +kernel
theorem dX13_told_127 : decode cX13_told 127 = .ok (.istore 4, 2) := by decide +kernel
theorem dX13_told_129 : decode cX13_told 129 = .ok (.iload 4, 2) := by decide +kernel
theorem dX13_told_131 : decode cX13_told 131 = .ok (.sipush 1000, 3) := by decide +kernel
theorem dX13_told_134 : decode cX13_told 134 = .ok (.if_icmp .ge 18, 3) := by decide +kernel
theorem dX13_told_137 : decode cX13_told 137 = .ok (.aload_n 3, 1) := by decide +kernel
theorem dX13_told_138 : decode cX13_told 138 = .ok (.iload 4, 2) := by decide +kernel
theorem dX13_told_140 : decode cX13_told 140 = .ok (.invokevirtual 247, 3) := by decide +kernel
theorem dX13_told_143 : decode cX13_told 143 = .ok (.ifCond .ne 9, 3) := by decide +kernel
theorem dX13_told_146 : decode cX13_told 146 = .ok (.iinc 4 1, 3) := by decide +kernel
theorem dX13_told_149 : decode cX13_told 149 = .ok (.goto (-20), 3) := by decide +kernel
theorem dX13_told_152 : decode cX13_told 152 = .ok (.iload 4, 2) := by decide +kernel
theorem dX13_told_154 : decode cX13_told 154 = .ok (.ireturn, 1) := by decide +kernel
theorem dX13_told_155 : decode cX13_told 155 = .ok (.iconst (-1), 1) := by decide +kernel
theorem dX13_told_156 : decode cX13_told 156 = .ok (.ireturn, 1) := by decide +kernel
theorem dX13_sum_0 : decode cX13_sum 0 = .ok (.aload_n 0, 1) := by decide +kernel
theorem dX13_sum_1 : decode cX13_sum 1 = .ok (.iconst 0, 1) := by decide +kernel
theorem dX13_sum_2 : decode cX13_sum 2 = .ok (.putfield 55, 3) := by decide +kernel
theorem dX13_sum_5 : decode cX13_sum 5 = .ok (.aload_n 0, 1) := by decide +kernel
theorem dX13_sum_6 : decode cX13_sum 6 = .ok (.iload_n 1, 1) := by decide +kernel
theorem dX13_sum_7 : decode cX13_sum 7 = .ok (.invokevirtual 64, 3) := by decide +kernel
theorem dX13_sum_10 : decode cX13_sum 10 = .ok (.ifCond .ne 5, 3) := by decide +kernel
theorem dX13_sum_13 : decode cX13_sum 13 = .ok (.lconst 0, 1) := by decide +kernel
theorem dX13_sum_14 : decode cX13_sum 14 = .ok (.lreturn, 1) := by decide +kernel
theorem dX13_sum_15 : decode cX13_sum 15 = .ok (.aload_n 0, 1) := by decide +kernel
theorem dX13_sum_16 : decode cX13_sum 16 = .ok (.getfield 12, 3) := by decide +kernel
theorem dX13_sum_19 : decode cX13_sum 19 = .ok (.iload_n 1, 1) := by decide +kernel
theorem dX13_sum_20 : decode cX13_sum 20 = .ok (.aaload, 1) := by decide +kernel
theorem dX13_sum_21 : decode cX13_sum 21 = .ok (.astore 4, 2) := by decide +kernel
theorem dX13_sum_23 : decode cX13_sum 23 = .ok (.iload_n 3, 1) := by decide +kernel
theorem dX13_sum_24 : decode cX13_sum 24 = .ok (.ifCond .lt 14, 3) := by decide +kernel
theorem dX13_sum_27 : decode cX13_sum 27 = .ok (.iload_n 3, 1) := by decide +kernel
theorem dX13_sum_28 : decode cX13_sum 28 = .ok (.sipush 1000, 3) := by decide +kernel
theorem dX13_sum_31 : decode cX13_sum 31 = .ok (.if_icmp .ge 7, 3) := by decide +kernel
theorem dX13_sum_34 : decode cX13_sum 34 = .ok (.iconst 1, 1) := by decide +kernel
theorem dX13_sum_35 : decode cX13_sum 35 = .ok (.goto 4, 3) := by decide +kernel
theorem dX13_sum_38 : decode cX13_sum 38 = .ok (.iconst 0, 1) := by decide +kernel
theorem dX13_sum_39 : decode cX13_sum 39 = .ok (.istore 5, 2) := by decide +kernel
theorem dX13_sum_41 : decode cX13_sum 41 = .ok (.iload_n 2, 1) := by decide +kernel
theorem dX13_sum_42 : decode cX13_sum 42 = .ok (.tableswitch 75 0 3 #[30, 36, 52, 69], 30) := by decide +kernel
theorem dX13_sum_72 : decode cX13_sum 72 = .ok (.aload 4, 2) := by decide +kernel
theorem dX13_sum_74 : decode cX13_sum 74 = .ok (.getfield 179, 3) := by decide +kernel
theorem dX13_sum_77 : decode cX13_sum 77 = .ok (.lreturn, 1) := by decide +kernel
theorem dX13_sum_78 : decode cX13_sum 78 = .ok (.iload 5, 2) := by decide +kernel
theorem dX13_sum_80 : decode cX13_sum 80 = .ok (.ifCond .eq 12, 3) := by decide +kernel
theorem dX13_sum_83 : decode cX13_sum 83 = .ok (.aload 4, 2) := by decide +kernel
theorem dX13_sum_85 : decode cX13_sum 85 = .ok (.iload_n 3, 1) := by decide +kernel
theorem dX13_sum_86 : decode cX13_sum 86 = .ok (.invokevirtual 324, 3) := by decide +kernel
theorem dX13_sum_89 : decode cX13_sum 89 = .ok (.goto 4, 3) := by decide +kernel
theorem dX13_sum_92 : decode cX13_sum 92 = .ok (.lconst 0, 1) := by decide +kernel
theorem dX13_sum_93 : decode cX13_sum 93 = .ok (.lreturn, 1) := by decide +kernel
theorem dX13_sum_94 : decode cX13_sum 94 = .ok (.iload 5, 2) := by decide +kernel
theorem dX13_sum_96 : decode cX13_sum 96 = .ok (.ifCond .eq 13, 3) := by decide +kernel
theorem dX13_sum_99 : decode cX13_sum 99 = .ok (.aload 4, 2) := by decide +kernel
theorem dX13_sum_101 : decode cX13_sum 101 = .ok (.getfield 328, 3) := by decide +kernel
theorem dX13_sum_104 : decode cX13_sum 104 = .ok (.iload_n 3, 1) := by decide +kernel
theorem dX13_sum_105 : decode cX13_sum 105 = .ok (.laload, 1) := by decide +kernel
theorem dX13_sum_106 : decode cX13_sum 106 = .ok (.goto 4, 3) := by decide +kernel
theorem dX13_sum_109 : decode cX13_sum 109 = .ok (.lconst 0, 1) := by decide +kernel
theorem dX13_sum_110 : decode cX13_sum 110 = .ok (.lreturn, 1) := by decide +kernel
theorem dX13_sum_111 : decode cX13_sum 111 = .ok (.aload 4, 2) := by decide +kernel
theorem dX13_sum_113 : decode cX13_sum 113 = .ok (.getfield 364, 3) := by decide +kernel
theorem dX13_sum_116 : decode cX13_sum 116 = .ok (.lreturn, 1) := by decide +kernel
theorem dX13_sum_117 : decode cX13_sum 117 = .ok (.lconst 0, 1) := by decide +kernel
theorem dX13_sum_118 : decode cX13_sum 118 = .ok (.lreturn, 1) := by decide +kernel
theorem wd_739 : Cond.fieldLink RX13 12 RX13 "houses" "[LPartnersBookModel$House;" ∈ lw_good := mem_t6 62 (by decide +kernel) rfl
theorem wd_740 : Cond.methodLink RX13 187 yX13_isTenure ∈ lw_good := mem_t7 6 (by decide +kernel) rfl
theorem wd_741 : Cond.instanceMethod yX13_isTenure ∈ lw_good := mem_t7 8 (by decide +kernel) rfl
theorem wd_742 : Cond.selects RX13 yX13_isTenure yX13_isTenure ∈ lw_good := mem_p 35 (by decide +kernel) rfl
theorem wd_743 : Cond.code yX13_isTenure cX13_isTenure 3 (some .boolean) ∈ lw_good := mem_t7 9 rfl rfl
theorem wd_744 : Cond.methodLink RX13 98 yX13_isSeat ∈ lw_good := mem_t6 147 (by decide +kernel) rfl
theorem wd_745 : Cond.instanceMethod yX13_isSeat ∈ lw_good := mem_t6 149 (by decide +kernel) rfl
theorem wd_746 : Cond.selects RX13 yX13_isSeat yX13_isSeat ∈ lw_good := mem_p 29 (by decide +kernel) rfl
theorem wd_747 : Cond.code yX13_isSeat cX13_isSeat 3 (some .boolean) ∈ lw_good := mem_t6 150 rfl rfl
theorem wd_748 : Cond.methodLink RX13 190 yX12_isIn ∈ lw_good := mem_t7 10 (by decide +kernel) rfl
theorem wd_749 : Cond.instanceMethod yX12_isIn ∈ lw_good := mem_t7 11 (by decide +kernel) rfl
theorem wd_750 : Cond.selects RX12 yX12_isIn yX12_isIn ∈ lw_good := mem_t7 12 (by decide +kernel) rfl
theorem wd_751 : Cond.code yX12_isIn cX12_isIn 3 (some .boolean) ∈ lw_good := mem_t7 13 rfl rfl
theorem wd_752 : Cond.methodLink RX13 247 yX12_isOpen ∈ lw_good := mem_t7 31 (by decide +kernel) rfl
theorem wd_753 : Cond.instanceMethod yX12_isOpen ∈ lw_good := mem_t7 32 (by decide +kernel) rfl
theorem wd_754 : Cond.selects RX12 yX12_isOpen yX12_isOpen ∈ lw_good := mem_t7 33 (by decide +kernel) rfl
theorem wd_755 : Cond.code yX12_isOpen cX12_isOpen 2 (some .boolean) ∈ lw_good := mem_t7 34 rfl rfl
theorem wd_756 : Cond.methodLink RX13 324 yX12_entries ∈ lw_good := mem_t7 64 (by decide +kernel) rfl
theorem wd_757 : Cond.instanceMethod yX12_entries ∈ lw_good := mem_t7 65 (by decide +kernel) rfl
theorem wd_758 : Cond.selects RX12 yX12_entries yX12_entries ∈ lw_good := mem_t7 66 (by decide +kernel) rfl
theorem wd_759 : Cond.code yX12_entries cX12_entries 5 (some .long) ∈ lw_good := mem_t7 67 rfl rfl
set_option maxHeartbeats 4000000 in
set_option maxRecDepth 100000 in
theorem r_X13_isTenure (l : Launch) (D : va_G) (cy : Nat → ClassId) (K : Kp) (L : List Nat) (M : Hp) (sz : Nat) (za : Nat) (z0 : Int32) (z1 : Nat) (z2 : Nat) (z3 : Nat) (z4 : Int32) (z5 : Int32) (z6 : Nat) (z7 : Nat) (z8 : Nat) (z9 : Nat) (z10 : Nat) (z11 : Nat) (z12 : Nat) (z13 : Nat) (z14 : Nat) (z15 : Nat) (z16 : Nat) (z17 : Nat) (z18 : Int32) (z19 : Nat) (k1 : Int32) (k2 : Int32) (hW : WOM cy K L M) (i1 : isk K L z1 23 8) (b2 : z2 ≤ 8) (b3 : z3 ≤ 40) (i6 : isk K L z6 47 40) (i7 : isk K L z7 48 40) (i8 : isk K L z8 49 8) (i9 : isk K L z9 50 8) (b10 : z10 ≤ 8) (i11 : isk K L z11 32 24) (i12 : isk K L z12 14 24) (i13 : isk K L z13 97 24) (i14 : isk K L z14 98 24) (i15 : isk K L z15 99 24) (b16 : z16 ≤ 24) (i17 : isk K L z17 14 24) (i19 : isk K L z19 15 25) : Met l yX13_isTenure (wsM yX13_isTenure cX13_isTenure 3 (some .boolean)) ({ frames := 1, cells := 0, slots := 0, locals := 21 }) (va_Pc [.ref za, .int k1, .int k2] (PG D cy [(za, (b13_0 z0 z1 (nI z2) (nI z3) z4 z5 z6 z7 z8 z9 (nI z10) z11 z12 z13 z14 z15 (nI z16) z17 z18 z19))] L M sz)) (va_Qi (fun (r : Int32) (_ : Unit) => (r = 1 ∧ ¬ k1 < 0 ∧ ¬ (nI z2) ≤ k1 ∧ ¬ k2 < 0 ∧ ¬ 24 ≤ k2) ∨ (r = 0)) (fun _ t => PQ D [(za, (b13_0 z0 z1 (nI z2) (nI z3) z4 z5 z6 z7 z8 z9 (nI z10) z11 z12 z13 z14 z15 (nI z16) z17 z18 z19))] L M (va_A ([(za, (b13_0 z0 z1 (nI z2) (nI z3) z4 z5 z6 z7 z8 z9 (nI z10) z11 z12 z13 z14 z15 (nI z16) z17 z18 z19))] ++ va_pl L M) sz) t) (va_A ([(za, (b13_0 z0 z1 (nI z2) (nI z3) z4 z5 z6 z7 z8 z9 (nI z10) z11 z12 z13 z14 z15 (nI z16) z17 z18 z19))] ++ va_pl L M) sz)) 0 0 (va_A ([(za, (b13_0 z0 z1 (nI z2) (nI z3) z4 z5 z6 z7 z8 z9 (nI z10) z11 z12 z13 z14 z15 (nI z16) z17 z18 z19))] ++ va_pl L M) sz) := by
  refine Met.ofW (cc := cX13_isTenure) (maxL := 3) (ret := (some .boolean)) (by decide) rfl ?_
  intro p e s m args below meth c s₁ B hml hv
  obtain ⟨rfl, hsz, hP, hK, hD0, hN⟩ := hv
  have hx := B.exec
  have hb := B.bytes
  have hr := B.returns
  have hts := atoms_spec (ws := (wsM yX13_isTenure cX13_isTenure 3 (some .boolean))) B.pre
  have hg : ∀ w ∈ lw_good, w.before _ s = true := fun w h => hts w (List.mem_cons_of_mem _ h)
  have hown : s.vm.findClass RX13 = some m.cls := findClass_of_methodNamed B.named
  have hlocks := B.notSynchronized
  subst hsz
  have hD := hD0.self (sz := s.heap.size)
  generalize hAe : va_A ([(za, (b13_0 z0 z1 (nI z2) (nI z3) z4 z5 z6 z7 z8 z9 (nI z10) z11 z12 z13 z14 z15 (nI z16) z17 z18 z19))] ++ va_pl L M) s.heap.size = A at hD ⊢
  have hA : ∀ q : Nat, s.heap.size ≤ q → A q := fun q h => by rw [← hAe]; exact Or.inr h
  have hS : va_S A s.heap s.heap [] := va_S.rf
  have hl := lv_entry ([.ref za, .int k1, .int k2]) (n := 3) (Nat.le_of_ble_eq_true rfl)
  rw [lg_entry_eq]
  generalize (lg_sl ([.ref za, .int k1, .int k2]) ++ List.replicate (3 - (lg_sl ([.ref za, .int k1, .int k2])).length) Slot.unset).toArray = ls at hl ⊢
  refine W.nameQ (fun Q hQ => ?_)
  refine W.nameR (fun R hR => ?_)
  have hRf : 1 ≤ R.frames := by rw [hR]; exact Nat.le_of_ble_eq_true rfl
  have hRl : 21 ≤ R.locals := by rw [hR]; exact Nat.le_of_ble_eq_true rfl
  have hRc : 0 ≤ R.cells := by rw [hR]; exact Nat.le_of_ble_eq_true rfl
  have hRs : 0 ≤ R.slots := by rw [hR]; exact Nat.le_of_ble_eq_true rfl
  have hl : lv_has ls 3 [(0, .ref za), (1, .int k1), (2, .int k2)] := hl
  refine lv_aload_n hx hb dX13_isTenure_0 rfl (lv_at hl 0 rfl) ?_
  refine lv_iload_n hx hb dX13_isTenure_1 rfl (lv_at hl 1 rfl) ?_
  have hPc : va_P D vwCl ([(za, (b13_0 z0 z1 (nI z2) (nI z3) z4 z5 z6 z7 z8 z9 (nI z10) z11 z12 z13 z14 z15 (nI z16) z17 z18 z19))] ++ va_pl L M) s.heap := hP
  have hDc : va_D A ([(za, (b13_0 z0 z1 (nI z2) (nI z3) z4 z5 z6 z7 z8 z9 (nI z10) z11 z12 z13 z14 z15 (nI z16) z17 z18 z19))] ++ va_pl L M) := hD
  have hFc : ∀ q, va_A ([(za, (b13_0 z0 z1 (nI z2) (nI z3) z4 z5 z6 z7 z8 z9 (nI z10) z11 z12 z13 z14 z15 (nI z16) z17 z18 z19))] ++ va_pl L M) s.heap.size q → A q := pg_free hDc hS hA
  refine va_calli (va_runV (As := [.int k1]) (rest := []) ⟨hx, hb, hml, hown, hg⟩ (r_X13_isHouse l D cy K L M s.heap.size za z0 z1 z2 z3 z4 z5 z6 z7 z8 z9 z10 z11 z12 z13 z14 z15 z16 z17 z18 z19 k1  hW i1 b2 b3 i6 i7 i8 i9 b10 i11 i12 i13 i14 i15 b16 i17 i19) (cwV 1 hg (gV wd_714 wd_715 wd_716 wd_717 wd_718) rfl rfl rfl (by decide +kernel) ⟨(Nat.le_trans (Nat.le_of_ble_eq_true rfl) hRf), (Nat.le_trans (Nat.le_of_ble_eq_true rfl) hRl)⟩) ⟨PG.blind, va_recv hK hP (ci := 13) (q0 := 0) rfl rfl, fun U hU hW => ⟨rfl, PG.at hPc hK hDc hN hU hW⟩⟩ rfl rfl hl.1 rfl (lv_room (Nat.le_of_ble_eq_true rfl)) dX13_isTenure_2 ⟨(Nat.le_trans (Nat.le_of_ble_eq_true rfl) hRc), (Nat.le_trans (Nat.le_of_ble_eq_true rfl) hRs)⟩) hS (fun q _ h => hFc q h) hFc (fun r_2 M_3 t H_1 locs ht hvm hw hB hz1 hk1 hS => ?_)
  have hp_4 := hw
  obtain ⟨hP1, hD1⟩ := hB
  rw [ht] at hP1
  have hP : va_P D vwCl ([(za, (b13_0 z0 z1 (nI z2) (nI z3) z4 z5 z6 z7 z8 z9 (nI z10) z11 z12 z13 z14 z15 (nI z16) z17 z18 z19))] ++ va_pl L M) H_1 := hP1
  have hD : va_D A ([(za, (b13_0 z0 z1 (nI z2) (nI z3) z4 z5 z6 z7 z8 z9 (nI z10) z11 z12 z13 z14 z15 (nI z16) z17 z18 z19))] ++ va_pl L M) := hD1.mono hFc
  rcases hp_4 with ⟨rfl, c_5, c_6⟩ | rfl
  · have hz := rfl (a := 0)
    refine lv_if_eq (tgt := 29) hx hb dX13_isTenure_5 (by decide) (fun c_7 => absurd c_7 (by decide)) (fun _ => ?_)
    refine lv_iload_n hx hb dX13_isTenure_8 rfl (lv_at hl 2 rfl) ?_
    refine lv_if_lt (tgt := 29) hx hb dX13_isTenure_9 (by decide) (fun c_8 => ?_) (fun c_8 => ?_)
    · have hz := rfl (a := 0)
      refine lv_iconst (v := 0) hx hb dX13_isTenure_29 (by decide) ?_
      rw [hQ]
      exact W.zret (v := 0) hx hb hr rfl (fun t ht hW9 => ⟨⟨0, (), rfl, (Or.inr rfl), ⟨by rw [ht]; exact hP, hD⟩⟩, hS.F ht⟩) hS.2.2 dX13_isTenure_30
    · have hz := rfl (a := 0)
      refine lv_iload_n hx hb dX13_isTenure_12 rfl (lv_at hl 2 rfl) ?_
      refine lv_aload_n hx hb dX13_isTenure_13 rfl (lv_at hl 0 rfl) ?_
      refine va_get (D := D) (ci := 13) (v := .ref z1) (C := RX13) (T := TX13) (N := 20) hx hb hg inG13 hown hK hP 0 rfl rfl 1 (by decide) (hg _ wd_739) (fun _ h9 => h9) rfl dX13_isTenure_14 ?_
      refine lv_iload_n hx hb dX13_isTenure_17 rfl (lv_at hl 1 rfl) ?_
      obtain ⟨f9, hM9, hf9⟩ := hW.open_23 i1
      have hi_10 : vp_in k1 8 := (inbW (a := z2) (by omega) (inb k1 z2 (by omega) c_5 c_6))
      refine pg_aldq hx hb hK hP i1.1 9 hM9 rfl hi_10 dX13_isTenure_18 ?_
      obtain ⟨b11, eb_12, hb_13⟩ := hf9 _ (vp_lt hi_10)
      rw [eb_12]
      obtain ⟨fs14, hM14, hn14, hl14⟩ := hW.open_12 hb_13
      obtain ⟨v15, hv15, hc15⟩ : ∃ v : Nat, fs14[10]? = some (.int (nI v) : Value) ∧ v ≤ 24 := hl14 10 (by decide)
      refine pg_getN (D := D) (ci := 12) (v := .int (nI v15)) (C := RX12) (T := TX12) (N := 51) hx hb hg inG12 hown hK hP hb_13.1 hM14 rfl 10 (by decide) (hN.use (Cond.fieldLinkNest RX13 68 RX12 "tenures" "I" RX13) 19 rfl rfl) (fun _ h9 => h9) hv15 dX13_isTenure_19 ?_
      refine lv_icmp_ge (tgt := 29) hx hb dX13_isTenure_22 (by decide) (fun c_16 => ?_) (fun c_16 => ?_)
      · have hz := rfl (a := 0)
        refine lv_iconst (v := 0) hx hb dX13_isTenure_29 (by decide) ?_
        rw [hQ]
        exact W.zret (v := 0) hx hb hr rfl (fun t ht hW9 => ⟨⟨0, (), rfl, (Or.inr rfl), ⟨by rw [ht]; exact hP, hD⟩⟩, hS.F ht⟩) hS.2.2 dX13_isTenure_30
      · have hz := rfl (a := 0)
        have n_17 : ¬ 24 ≤ k2 := ltB (b := 24) (by decide) hc15 (Int32.not_le.mp c_16)
        refine lv_iconst (v := 1) hx hb dX13_isTenure_25 (by decide) ?_
        refine lv_goto (tgt := 30) hx hb dX13_isTenure_26 (by decide) ?_
        rw [hQ]
        exact W.zret (v := 1) hx hb hr rfl (fun t ht hW9 => ⟨⟨1, (), rfl, (Or.inl ⟨rfl, c_5, c_6, c_8, n_17⟩), ⟨by rw [ht]; exact hP, hD⟩⟩, hS.F ht⟩) hS.2.2 dX13_isTenure_30
  · have hz := rfl (a := 0)
    refine lv_if_eq (tgt := 29) hx hb dX13_isTenure_5 (by decide) (fun _ => ?_) (fun c_18 => absurd c_18 (by decide))
    refine lv_iconst (v := 0) hx hb dX13_isTenure_29 (by decide) ?_
    rw [hQ]
    exact W.zret (v := 0) hx hb hr rfl (fun t ht hW9 => ⟨⟨0, (), rfl, (Or.inr rfl), ⟨by rw [ht]; exact hP, hD⟩⟩, hS.F ht⟩) hS.2.2 dX13_isTenure_30
set_option maxHeartbeats 4000000 in
set_option maxRecDepth 100000 in
theorem r_X13_account (l : Launch) (D : va_G) (cy : Nat → ClassId) (K : Kp) (L : List Nat) (M : Hp) (sz : Nat) (za : Nat) (z0 : Int32) (z1 : Nat) (z2 : Nat) (z3 : Nat) (z4 : Int32) (z5 : Int32) (z6 : Nat) (z7 : Nat) (z8 : Nat) (z9 : Nat) (z10 : Nat) (z11 : Nat) (z12 : Nat) (z13 : Nat) (z14 : Nat) (z15 : Nat) (z16 : Nat) (z17 : Nat) (z18 : Int32) (z19 : Nat) (k1 : Int32) (k2 : Int32) (k3 : Int32) (hW : WOM cy K L M) (i1 : isk K L z1 23 8) (b2 : z2 ≤ 8) (b3 : z3 ≤ 40) (i6 : isk K L z6 47 40) (i7 : isk K L z7 48 40) (i8 : isk K L z8 49 8) (i9 : isk K L z9 50 8) (b10 : z10 ≤ 8) (i11 : isk K L z11 32 24) (i12 : isk K L z12 14 24) (i13 : isk K L z13 97 24) (i14 : isk K L z14 98 24) (i15 : isk K L z15 99 24) (b16 : z16 ≤ 24) (i17 : isk K L z17 14 24) (i19 : isk K L z19 15 25) : Met l yX13_account (wsM yX13_account cX13_account 5 (some .long)) ({ frames := 2, cells := 0, slots := 0, locals := 43 }) (va_Pc [.ref za, .int k1, .int k2, .int k3] (PG D cy [(za, (b13_0 z0 z1 (nI z2) (nI z3) z4 z5 z6 z7 z8 z9 (nI z10) z11 z12 z13 z14 z15 (nI z16) z17 z18 z19))] L M sz)) (va_Ql (fun (r : Int64) (_ : Unit) => True) (fun _ t => PQ D [(za, (b13_0 0 z1 (nI z2) (nI z3) z4 z5 z6 z7 z8 z9 (nI z10) z11 z12 z13 z14 z15 (nI z16) z17 z18 z19))] L M (va_A ([(za, (b13_0 z0 z1 (nI z2) (nI z3) z4 z5 z6 z7 z8 z9 (nI z10) z11 z12 z13 z14 z15 (nI z16) z17 z18 z19))] ++ va_pl L M) sz) t) (va_A ([(za, (b13_0 z0 z1 (nI z2) (nI z3) z4 z5 z6 z7 z8 z9 (nI z10) z11 z12 z13 z14 z15 (nI z16) z17 z18 z19))] ++ va_pl L M) sz)) 0 0 (va_A ([(za, (b13_0 z0 z1 (nI z2) (nI z3) z4 z5 z6 z7 z8 z9 (nI z10) z11 z12 z13 z14 z15 (nI z16) z17 z18 z19))] ++ va_pl L M) sz) := by
  refine Met.ofW (cc := cX13_account) (maxL := 5) (ret := (some .long)) (by decide) rfl ?_
  intro p e s m args below meth c s₁ B hml hv
  obtain ⟨rfl, hsz, hP, hK, hD0, hN⟩ := hv
  have hx := B.exec
  have hb := B.bytes
  have hr := B.returns
  have hts := atoms_spec (ws := (wsM yX13_account cX13_account 5 (some .long))) B.pre
  have hg : ∀ w ∈ lw_good, w.before _ s = true := fun w h => hts w (List.mem_cons_of_mem _ h)
  have hown : s.vm.findClass RX13 = some m.cls := findClass_of_methodNamed B.named
  have hlocks := B.notSynchronized
  subst hsz
  have hD := hD0.self (sz := s.heap.size)
  generalize hAe : va_A ([(za, (b13_0 z0 z1 (nI z2) (nI z3) z4 z5 z6 z7 z8 z9 (nI z10) z11 z12 z13 z14 z15 (nI z16) z17 z18 z19))] ++ va_pl L M) s.heap.size = A at hD ⊢
  have hA : ∀ q : Nat, s.heap.size ≤ q → A q := fun q h => by rw [← hAe]; exact Or.inr h
  have hS : va_S A s.heap s.heap [] := va_S.rf
  have hl := lv_entry ([.ref za, .int k1, .int k2, .int k3]) (n := 5) (Nat.le_of_ble_eq_true rfl)
  rw [lg_entry_eq]
  generalize (lg_sl ([.ref za, .int k1, .int k2, .int k3]) ++ List.replicate (5 - (lg_sl ([.ref za, .int k1, .int k2, .int k3])).length) Slot.unset).toArray = ls at hl ⊢
  refine W.nameQ (fun Q hQ => ?_)
  refine W.nameR (fun R hR => ?_)
  have hRf : 2 ≤ R.frames := by rw [hR]; exact Nat.le_of_ble_eq_true rfl
  have hRl : 43 ≤ R.locals := by rw [hR]; exact Nat.le_of_ble_eq_true rfl
  have hRc : 0 ≤ R.cells := by rw [hR]; exact Nat.le_of_ble_eq_true rfl
  have hRs : 0 ≤ R.slots := by rw [hR]; exact Nat.le_of_ble_eq_true rfl
  have hl : lv_has ls 5 [(0, .ref za), (1, .int k1), (2, .int k2), (3, .int k3)] := hl
  refine lv_aload_n hx hb dX13_account_0 rfl (lv_at hl 0 rfl) ?_
  refine lv_iconst (v := 0) hx hb dX13_account_1 (by decide) ?_
  refine va_put (D := D) (ci := 13) (v := .int 0) (ty := .int) (C := RX13) (T := TX13) (N := 20) hx hb hg inG13 tyX13 tyX13_ok nmX13 hown hK hP hD hS 0 rfl rfl 0 (by decide) (hg _ wd_720) (fun _ h9 => h9) rfl (by decide +kernel) rfl rfl (Nat.le_of_ble_eq_true rfl) dX13_account_2 (fun H_1 locs hP hD hS => ?_)
  have hP : va_P D vwCl ([(za, (b13_0 0 z1 (nI z2) (nI z3) z4 z5 z6 z7 z8 z9 (nI z10) z11 z12 z13 z14 z15 (nI z16) z17 z18 z19))] ++ va_pl L M) H_1 := hP
  have hD : va_D A ([(za, (b13_0 0 z1 (nI z2) (nI z3) z4 z5 z6 z7 z8 z9 (nI z10) z11 z12 z13 z14 z15 (nI z16) z17 z18 z19))] ++ va_pl L M) := hD
  refine lv_aload_n hx hb dX13_account_5 rfl (lv_at hl 0 rfl) ?_
  refine lv_iload_n hx hb dX13_account_6 rfl (lv_at hl 1 rfl) ?_
  refine lv_iload_n hx hb dX13_account_7 rfl (lv_at hl 2 rfl) ?_
  have hPc : va_P D vwCl ([(za, (b13_0 0 z1 (nI z2) (nI z3) z4 z5 z6 z7 z8 z9 (nI z10) z11 z12 z13 z14 z15 (nI z16) z17 z18 z19))] ++ va_pl L M) H_1 := hP
  have hDc : va_D A ([(za, (b13_0 0 z1 (nI z2) (nI z3) z4 z5 z6 z7 z8 z9 (nI z10) z11 z12 z13 z14 z15 (nI z16) z17 z18 z19))] ++ va_pl L M) := hD
  have hFc : ∀ q, va_A ([(za, (b13_0 0 z1 (nI z2) (nI z3) z4 z5 z6 z7 z8 z9 (nI z10) z11 z12 z13 z14 z15 (nI z16) z17 z18 z19))] ++ va_pl L M) H_1.size q → A q := pg_free hDc hS hA
  refine va_calli (va_runV (As := [.int k1, .int k2]) (rest := []) ⟨hx, hb, hml, hown, hg⟩ (r_X13_isTenure l D cy K L M H_1.size za 0 z1 z2 z3 z4 z5 z6 z7 z8 z9 z10 z11 z12 z13 z14 z15 z16 z17 z18 z19 k1 k2  hW i1 b2 b3 i6 i7 i8 i9 b10 i11 i12 i13 i14 i15 b16 i17 i19) (cwV 2 hg (gV wd_740 wd_741 wd_742 wd_717 wd_743) rfl rfl rfl (by decide +kernel) ⟨(Nat.le_trans (Nat.le_of_ble_eq_true rfl) hRf), (Nat.le_trans (Nat.le_of_ble_eq_true rfl) hRl)⟩) ⟨PG.blind, va_recv hK hP (ci := 13) (q0 := 0) rfl rfl, fun U hU hW => ⟨rfl, PG.at hPc hK hDc hN hU hW⟩⟩ rfl rfl hl.1 rfl (lv_room (Nat.le_of_ble_eq_true rfl)) dX13_account_8 ⟨(Nat.le_trans (Nat.le_of_ble_eq_true rfl) hRc), (Nat.le_trans (Nat.le_of_ble_eq_true rfl) hRs)⟩) hS (fun q _ h => hFc q h) hFc (fun r_3 M_4 t H_2 locs ht hvm hw hB hz1 hk1 hS => ?_)
  have hp_5 := hw
  obtain ⟨hP1, hD1⟩ := hB
  rw [ht] at hP1
  have hP : va_P D vwCl ([(za, (b13_0 0 z1 (nI z2) (nI z3) z4 z5 z6 z7 z8 z9 (nI z10) z11 z12 z13 z14 z15 (nI z16) z17 z18 z19))] ++ va_pl L M) H_2 := hP1
  have hD : va_D A ([(za, (b13_0 0 z1 (nI z2) (nI z3) z4 z5 z6 z7 z8 z9 (nI z10) z11 z12 z13 z14 z15 (nI z16) z17 z18 z19))] ++ va_pl L M) := hD1.mono hFc
  rcases hp_5 with ⟨rfl, c_6, c_7, c_8, c_9⟩ | rfl
  · have hz := rfl (a := 0)
    refine lv_if_ne (tgt := 16) hx hb dX13_account_11 (by decide) (fun _ => ?_) (fun c_10 => absurd c_10 (by decide))
    refine lv_aload_n hx hb dX13_account_16 rfl (lv_at hl 0 rfl) ?_
    refine va_get (D := D) (ci := 13) (v := .ref z1) (C := RX13) (T := TX13) (N := 20) hx hb hg inG13 hown hK hP 0 rfl rfl 1 (by decide) (hg _ wd_739) (fun _ h9 => h9) rfl dX13_account_17 ?_
    refine lv_iload_n hx hb dX13_account_20 rfl (lv_at hl 1 rfl) ?_
    obtain ⟨f11, hM11, hf11⟩ := hW.open_23 i1
    have hi_12 : vp_in k1 8 := (inbW (a := z2) (by omega) (inb k1 z2 (by omega) c_6 c_7))
    refine pg_aldq hx hb hK hP i1.1 9 hM11 rfl hi_12 dX13_account_21 ?_
    obtain ⟨b13, eb_14, hb_15⟩ := hf11 _ (vp_lt hi_12)
    rw [eb_14]
    refine lv_astore (lv' := [(4, .ref b13), (0, .ref za), (1, .int k1), (2, .int k2), (3, .int k3)]) hx hb dX13_account_22 hl (by decide) rfl (fun ls hl => ?_)
    refine lv_iload_n hx hb dX13_account_24 rfl (lv_at hl 4 rfl) ?_
    by_cases hout : (k3 : Int32).toInt < 0 ∨ 6 < (k3 : Int32).toInt
    · refine lv_tableOut (tgt := 124) hx hb dX13_account_25 hout (by decide) ?_
      refine lv_lconst (v := 0) hx hb dX13_account_124 (by decide) ?_
      rw [hQ]
      exact W.lret (v := 0) hx hb hr (fun t ht hW9 => ⟨⟨0, (), rfl, trivial, ⟨by rw [ht]; exact hP, hD⟩⟩, hS.F ht⟩) hS.2.2 dX13_account_125
    · obtain ⟨j_16, hj, hj2⟩ : ∃ j : Nat, j ≤ 6 ∧ (k3 : Int32).toInt = (j : Int) := ⟨(k3 : Int32).toInt.toNat, by omega, by omega⟩
      rcases (show j_16 = 0 ∨ j_16 = 1 ∨ j_16 = 2 ∨ j_16 = 3 ∨ j_16 = 4 ∨ j_16 = 5 ∨ j_16 = 6 by omega) with rfl | rfl | rfl | rfl | rfl | rfl | rfl
      · refine lv_tableIn (tgt := 68) hx hb dX13_account_25 (by omega) (by omega) (by rw [hj2]; rfl) (by decide) ?_
        refine lv_aload hx hb dX13_account_68 (lv_at hl 0 rfl) ?_
        obtain ⟨fs17, hM17, hn17, hl17⟩ := hW.open_12 hb_15
        obtain ⟨v18, hv18, hc18⟩ : ∃ v : Nat, fs17[27]? = some (.ref v : Value) ∧ isk K L v 87 24 := hl17 27 (by decide)
        refine pg_getN (D := D) (ci := 12) (v := .ref v18) (C := RX12) (T := TX12) (N := 51) hx hb hg inG12 hown hK hP hb_15.1 hM17 rfl 27 (by decide) (hN.use (Cond.fieldLinkNest RX13 307 RX12 "credit" "[J" RX13) 36 rfl rfl) (fun _ h9 => h9) hv18 dX13_account_70 ?_
        refine lv_iload_n hx hb dX13_account_73 rfl (lv_at hl 3 rfl) ?_
        obtain ⟨f19, hM19⟩ := hW.open_87 hc18
        refine pg_lald hx hb hK hP hc18.1 1 hM19 rfl (inb k2 24 (by omega) c_8 c_9) dX13_account_74 ?_
        refine lv_topl (fun f_20 ef_20 => ?_)
        rw [hQ]
        exact W.lret (v := f_20) hx hb hr (fun t ht hW9 => ⟨⟨f_20, (), rfl, trivial, ⟨by rw [ht]; exact hP, hD⟩⟩, hS.F ht⟩) hS.2.2 dX13_account_75
      · refine lv_tableIn (tgt := 76) hx hb dX13_account_25 (by omega) (by omega) (by rw [hj2]; rfl) (by decide) ?_
        refine lv_aload hx hb dX13_account_76 (lv_at hl 0 rfl) ?_
        obtain ⟨fs21, hM21, hn21, hl21⟩ := hW.open_12 hb_15
        obtain ⟨v22, hv22, hc22⟩ : ∃ v : Nat, fs21[28]? = some (.ref v : Value) ∧ isk K L v 88 24 := hl21 28 (by decide)
        refine pg_getN (D := D) (ci := 12) (v := .ref v22) (C := RX12) (T := TX12) (N := 51) hx hb hg inG12 hown hK hP hb_15.1 hM21 rfl 28 (by decide) (hN.use (Cond.fieldLinkNest RX13 370 RX12 "hidden" "[J" RX13) 37 rfl rfl) (fun _ h9 => h9) hv22 dX13_account_78 ?_
        refine lv_iload_n hx hb dX13_account_81 rfl (lv_at hl 3 rfl) ?_
        obtain ⟨f23, hM23⟩ := hW.open_88 hc22
        refine pg_lald hx hb hK hP hc22.1 1 hM23 rfl (inb k2 24 (by omega) c_8 c_9) dX13_account_82 ?_
        refine lv_topl (fun f_24 ef_24 => ?_)
        rw [hQ]
        exact W.lret (v := f_24) hx hb hr (fun t ht hW9 => ⟨⟨f_24, (), rfl, trivial, ⟨by rw [ht]; exact hP, hD⟩⟩, hS.F ht⟩) hS.2.2 dX13_account_83
      · refine lv_tableIn (tgt := 84) hx hb dX13_account_25 (by omega) (by omega) (by rw [hj2]; rfl) (by decide) ?_
        refine lv_aload hx hb dX13_account_84 (lv_at hl 0 rfl) ?_
        obtain ⟨fs25, hM25, hn25, hl25⟩ := hW.open_12 hb_15
        obtain ⟨v26, hv26, hc26⟩ : ∃ v : Nat, fs25[29]? = some (.ref v : Value) ∧ isk K L v 89 24 := hl25 29 (by decide)
        refine pg_getN (D := D) (ci := 12) (v := .ref v26) (C := RX12) (T := TX12) (N := 51) hx hb hg inG12 hown hK hP hb_15.1 hM25 rfl 29 (by decide) (hN.use (Cond.fieldLinkNest RX13 230 RX12 "borne" "[J" RX13) 38 rfl rfl) (fun _ h9 => h9) hv26 dX13_account_86 ?_
        refine lv_iload_n hx hb dX13_account_89 rfl (lv_at hl 3 rfl) ?_
        obtain ⟨f27, hM27⟩ := hW.open_89 hc26
        refine pg_lald hx hb hK hP hc26.1 1 hM27 rfl (inb k2 24 (by omega) c_8 c_9) dX13_account_90 ?_
        refine lv_topl (fun f_28 ef_28 => ?_)
        rw [hQ]
        exact W.lret (v := f_28) hx hb hr (fun t ht hW9 => ⟨⟨f_28, (), rfl, trivial, ⟨by rw [ht]; exact hP, hD⟩⟩, hS.F ht⟩) hS.2.2 dX13_account_91
      · refine lv_tableIn (tgt := 92) hx hb dX13_account_25 (by omega) (by omega) (by rw [hj2]; rfl) (by decide) ?_
        refine lv_aload hx hb dX13_account_92 (lv_at hl 0 rfl) ?_
        obtain ⟨fs29, hM29, hn29, hl29⟩ := hW.open_12 hb_15
        obtain ⟨v30, hv30, hc30⟩ : ∃ v : Nat, fs29[30]? = some (.ref v : Value) ∧ isk K L v 85 24 := hl29 30 (by decide)
        refine pg_getN (D := D) (ci := 12) (v := .ref v30) (C := RX12) (T := TX12) (N := 51) hx hb hg inG12 hown hK hP hb_15.1 hM29 rfl 30 (by decide) (hN.use (Cond.fieldLinkNest RX13 205 RX12 "lent" "[J" RX13) 39 rfl rfl) (fun _ h9 => h9) hv30 dX13_account_94 ?_
        refine lv_iload_n hx hb dX13_account_97 rfl (lv_at hl 3 rfl) ?_
        obtain ⟨f31, hM31⟩ := hW.open_85 hc30
        refine pg_lald hx hb hK hP hc30.1 1 hM31 rfl (inb k2 24 (by omega) c_8 c_9) dX13_account_98 ?_
        refine lv_topl (fun f_32 ef_32 => ?_)
        rw [hQ]
        exact W.lret (v := f_32) hx hb hr (fun t ht hW9 => ⟨⟨f_32, (), rfl, trivial, ⟨by rw [ht]; exact hP, hD⟩⟩, hS.F ht⟩) hS.2.2 dX13_account_99
      · refine lv_tableIn (tgt := 100) hx hb dX13_account_25 (by omega) (by omega) (by rw [hj2]; rfl) (by decide) ?_
        refine lv_aload hx hb dX13_account_100 (lv_at hl 0 rfl) ?_
        obtain ⟨fs33, hM33, hn33, hl33⟩ := hW.open_12 hb_15
        obtain ⟨v34, hv34, hc34⟩ : ∃ v : Nat, fs33[31]? = some (.ref v : Value) ∧ isk K L v 90 24 := hl33 31 (by decide)
        refine pg_getN (D := D) (ci := 12) (v := .ref v34) (C := RX12) (T := TX12) (N := 51) hx hb hg inG12 hown hK hP hb_15.1 hM33 rfl 31 (by decide) (hN.use (Cond.fieldLinkNest RX13 373 RX12 "payable" "[J" RX13) 40 rfl rfl) (fun _ h9 => h9) hv34 dX13_account_102 ?_
        refine lv_iload_n hx hb dX13_account_105 rfl (lv_at hl 3 rfl) ?_
        obtain ⟨f35, hM35⟩ := hW.open_90 hc34
        refine pg_lald hx hb hK hP hc34.1 1 hM35 rfl (inb k2 24 (by omega) c_8 c_9) dX13_account_106 ?_
        refine lv_topl (fun f_36 ef_36 => ?_)
        rw [hQ]
        exact W.lret (v := f_36) hx hb hr (fun t ht hW9 => ⟨⟨f_36, (), rfl, trivial, ⟨by rw [ht]; exact hP, hD⟩⟩, hS.F ht⟩) hS.2.2 dX13_account_107
      · refine lv_tableIn (tgt := 108) hx hb dX13_account_25 (by omega) (by omega) (by rw [hj2]; rfl) (by decide) ?_
        refine lv_aload hx hb dX13_account_108 (lv_at hl 0 rfl) ?_
        obtain ⟨fs37, hM37, hn37, hl37⟩ := hW.open_12 hb_15
        obtain ⟨v38, hv38, hc38⟩ : ∃ v : Nat, fs37[32]? = some (.ref v : Value) ∧ isk K L v 91 24 := hl37 32 (by decide)
        refine pg_getN (D := D) (ci := 12) (v := .ref v38) (C := RX12) (T := TX12) (N := 51) hx hb hg inG12 hown hK hP hb_15.1 hM37 rfl 32 (by decide) (hN.use (Cond.fieldLinkNest RX13 376 RX12 "paid" "[J" RX13) 41 rfl rfl) (fun _ h9 => h9) hv38 dX13_account_110 ?_
        refine lv_iload_n hx hb dX13_account_113 rfl (lv_at hl 3 rfl) ?_
        obtain ⟨f39, hM39⟩ := hW.open_91 hc38
        refine pg_lald hx hb hK hP hc38.1 1 hM39 rfl (inb k2 24 (by omega) c_8 c_9) dX13_account_114 ?_
        refine lv_topl (fun f_40 ef_40 => ?_)
        rw [hQ]
        exact W.lret (v := f_40) hx hb hr (fun t ht hW9 => ⟨⟨f_40, (), rfl, trivial, ⟨by rw [ht]; exact hP, hD⟩⟩, hS.F ht⟩) hS.2.2 dX13_account_115
      · refine lv_tableIn (tgt := 116) hx hb dX13_account_25 (by omega) (by omega) (by rw [hj2]; rfl) (by decide) ?_
        refine lv_aload hx hb dX13_account_116 (lv_at hl 0 rfl) ?_
        obtain ⟨fs41, hM41, hn41, hl41⟩ := hW.open_12 hb_15
        obtain ⟨v42, hv42, hc42⟩ : ∃ v : Nat, fs41[33]? = some (.ref v : Value) ∧ isk K L v 92 24 := hl41 33 (by decide)
        refine pg_getN (D := D) (ci := 12) (v := .ref v42) (C := RX12) (T := TX12) (N := 51) hx hb hg inG12 hown hK hP hb_15.1 hM41 rfl 33 (by decide) (hN.use (Cond.fieldLinkNest RX13 259 RX12 "dues" "[J" RX13) 42 rfl rfl) (fun _ h9 => h9) hv42 dX13_account_118 ?_
        refine lv_iload_n hx hb dX13_account_121 rfl (lv_at hl 3 rfl) ?_
        obtain ⟨f43, hM43⟩ := hW.open_92 hc42
        refine pg_lald hx hb hK hP hc42.1 1 hM43 rfl (inb k2 24 (by omega) c_8 c_9) dX13_account_122 ?_
        refine lv_topl (fun f_44 ef_44 => ?_)
        rw [hQ]
        exact W.lret (v := f_44) hx hb hr (fun t ht hW9 => ⟨⟨f_44, (), rfl, trivial, ⟨by rw [ht]; exact hP, hD⟩⟩, hS.F ht⟩) hS.2.2 dX13_account_123
  · have hz := rfl (a := 0)
    refine lv_if_ne (tgt := 16) hx hb dX13_account_11 (by decide) (fun c_45 => absurd c_45 (by decide)) (fun _ => ?_)
    refine lv_lconst (v := 0) hx hb dX13_account_14 (by decide) ?_
    rw [hQ]
    exact W.lret (v := 0) hx hb hr (fun t ht hW9 => ⟨⟨0, (), rfl, trivial, ⟨by rw [ht]; exact hP, hD⟩⟩, hS.F ht⟩) hS.2.2 dX13_account_15
set_option maxHeartbeats 4000000 in
set_option maxRecDepth 100000 in
theorem r_X13_stretch_ (l : Launch) (D : va_G) (cy : Nat → ClassId) (K : Kp) (L : List Nat) (M : Hp) (sz : Nat) (za : Nat) (z0 : Int32) (z1 : Nat) (z2 : Nat) (z3 : Nat) (z4 : Int32) (z5 : Int32) (z6 : Nat) (z7 : Nat) (z8 : Nat) (z9 : Nat) (z10 : Nat) (z11 : Nat) (z12 : Nat) (z13 : Nat) (z14 : Nat) (z15 : Nat) (z16 : Nat) (z17 : Nat) (z18 : Int32) (z19 : Nat) (k1 : Int32) (k2 : Int32) (k3 : Int32) (hW : WOM cy K L M) (i1 : isk K L z1 23 8) (b2 : z2 ≤ 8) (b3 : z3 ≤ 40) (i6 : isk K L z6 47 40) (i7 : isk K L z7 48 40) (i8 : isk K L z8 49 8) (i9 : isk K L z9 50 8) (b10 : z10 ≤ 8) (i11 : isk K L z11 32 24) (i12 : isk K L z12 14 24) (i13 : isk K L z13 97 24) (i14 : isk K L z14 98 24) (i15 : isk K L z15 99 24) (b16 : z16 ≤ 24) (i17 : isk K L z17 14 24) (i19 : isk K L z19 15 25) : Met l yX13_stretch_ (wsM yX13_stretch_ cX13_stretch_ 5 (some .long)) ({ frames := 1, cells := 0, slots := 0, locals := 21 }) (va_Pc [.ref za, .int k1, .int k2, .int k3] (PG D cy [(za, (b13_0 z0 z1 (nI z2) (nI z3) z4 z5 z6 z7 z8 z9 (nI z10) z11 z12 z13 z14 z15 (nI z16) z17 z18 z19))] L M sz)) (va_Ql (fun (r : Int64) (_ : Unit) => True) (fun _ t => PQ D [(za, (b13_0 0 z1 (nI z2) (nI z3) z4 z5 z6 z7 z8 z9 (nI z10) z11 z12 z13 z14 z15 (nI z16) z17 z18 z19))] L M (va_A ([(za, (b13_0 z0 z1 (nI z2) (nI z3) z4 z5 z6 z7 z8 z9 (nI z10) z11 z12 z13 z14 z15 (nI z16) z17 z18 z19))] ++ va_pl L M) sz) t) (va_A ([(za, (b13_0 z0 z1 (nI z2) (nI z3) z4 z5 z6 z7 z8 z9 (nI z10) z11 z12 z13 z14 z15 (nI z16) z17 z18 z19))] ++ va_pl L M) sz)) 0 0 (va_A ([(za, (b13_0 z0 z1 (nI z2) (nI z3) z4 z5 z6 z7 z8 z9 (nI z10) z11 z12 z13 z14 z15 (nI z16) z17 z18 z19))] ++ va_pl L M) sz) := by
  refine Met.ofW (cc := cX13_stretch_) (maxL := 5) (ret := (some .long)) (by decide) rfl ?_
  intro p e s m args below meth c s₁ B hml hv
  obtain ⟨rfl, hsz, hP, hK, hD0, hN⟩ := hv
  have hx := B.exec
  have hb := B.bytes
  have hr := B.returns
  have hts := atoms_spec (ws := (wsM yX13_stretch_ cX13_stretch_ 5 (some .long))) B.pre
  have hg : ∀ w ∈ lw_good, w.before _ s = true := fun w h => hts w (List.mem_cons_of_mem _ h)
  have hown : s.vm.findClass RX13 = some m.cls := findClass_of_methodNamed B.named
  have hlocks := B.notSynchronized
  subst hsz
  have hD := hD0.self (sz := s.heap.size)
  generalize hAe : va_A ([(za, (b13_0 z0 z1 (nI z2) (nI z3) z4 z5 z6 z7 z8 z9 (nI z10) z11 z12 z13 z14 z15 (nI z16) z17 z18 z19))] ++ va_pl L M) s.heap.size = A at hD ⊢
  have hA : ∀ q : Nat, s.heap.size ≤ q → A q := fun q h => by rw [← hAe]; exact Or.inr h
  have hS : va_S A s.heap s.heap [] := va_S.rf
  have hl := lv_entry ([.ref za, .int k1, .int k2, .int k3]) (n := 5) (Nat.le_of_ble_eq_true rfl)
  rw [lg_entry_eq]
  generalize (lg_sl ([.ref za, .int k1, .int k2, .int k3]) ++ List.replicate (5 - (lg_sl ([.ref za, .int k1, .int k2, .int k3])).length) Slot.unset).toArray = ls at hl ⊢
  refine W.nameQ (fun Q hQ => ?_)
  refine W.nameR (fun R hR => ?_)
  have hRf : 1 ≤ R.frames := by rw [hR]; exact Nat.le_of_ble_eq_true rfl
  have hRl : 21 ≤ R.locals := by rw [hR]; exact Nat.le_of_ble_eq_true rfl
  have hRc : 0 ≤ R.cells := by rw [hR]; exact Nat.le_of_ble_eq_true rfl
  have hRs : 0 ≤ R.slots := by rw [hR]; exact Nat.le_of_ble_eq_true rfl
  have hl : lv_has ls 5 [(0, .ref za), (1, .int k1), (2, .int k2), (3, .int k3)] := hl
  refine lv_aload_n hx hb dX13_stretch__0 rfl (lv_at hl 0 rfl) ?_
  refine lv_iconst (v := 0) hx hb dX13_stretch__1 (by decide) ?_
  refine va_put (D := D) (ci := 13) (v := .int 0) (ty := .int) (C := RX13) (T := TX13) (N := 20) hx hb hg inG13 tyX13 tyX13_ok nmX13 hown hK hP hD hS 0 rfl rfl 0 (by decide) (hg _ wd_720) (fun _ h9 => h9) rfl (by decide +kernel) rfl rfl (Nat.le_of_ble_eq_true rfl) dX13_stretch__2 (fun H_1 locs hP hD hS => ?_)
  have hP : va_P D vwCl ([(za, (b13_0 0 z1 (nI z2) (nI z3) z4 z5 z6 z7 z8 z9 (nI z10) z11 z12 z13 z14 z15 (nI z16) z17 z18 z19))] ++ va_pl L M) H_1 := hP
  have hD : va_D A ([(za, (b13_0 0 z1 (nI z2) (nI z3) z4 z5 z6 z7 z8 z9 (nI z10) z11 z12 z13 z14 z15 (nI z16) z17 z18 z19))] ++ va_pl L M) := hD
  refine lv_aload_n hx hb dX13_stretch__5 rfl (lv_at hl 0 rfl) ?_
  refine lv_iload_n hx hb dX13_stretch__6 rfl (lv_at hl 1 rfl) ?_
  have hPc : va_P D vwCl ([(za, (b13_0 0 z1 (nI z2) (nI z3) z4 z5 z6 z7 z8 z9 (nI z10) z11 z12 z13 z14 z15 (nI z16) z17 z18 z19))] ++ va_pl L M) H_1 := hP
  have hDc : va_D A ([(za, (b13_0 0 z1 (nI z2) (nI z3) z4 z5 z6 z7 z8 z9 (nI z10) z11 z12 z13 z14 z15 (nI z16) z17 z18 z19))] ++ va_pl L M) := hD
  have hFc : ∀ q, va_A ([(za, (b13_0 0 z1 (nI z2) (nI z3) z4 z5 z6 z7 z8 z9 (nI z10) z11 z12 z13 z14 z15 (nI z16) z17 z18 z19))] ++ va_pl L M) H_1.size q → A q := pg_free hDc hS hA
  refine va_calli (va_runV (As := [.int k1]) (rest := []) ⟨hx, hb, hml, hown, hg⟩ (r_X13_isHouse l D cy K L M H_1.size za 0 z1 z2 z3 z4 z5 z6 z7 z8 z9 z10 z11 z12 z13 z14 z15 z16 z17 z18 z19 k1  hW i1 b2 b3 i6 i7 i8 i9 b10 i11 i12 i13 i14 i15 b16 i17 i19) (cwV 1 hg (gV wd_714 wd_715 wd_716 wd_717 wd_718) rfl rfl rfl (by decide +kernel) ⟨(Nat.le_trans (Nat.le_of_ble_eq_true rfl) hRf), (Nat.le_trans (Nat.le_of_ble_eq_true rfl) hRl)⟩) ⟨PG.blind, va_recv hK hP (ci := 13) (q0 := 0) rfl rfl, fun U hU hW => ⟨rfl, PG.at hPc hK hDc hN hU hW⟩⟩ rfl rfl hl.1 rfl (lv_room (Nat.le_of_ble_eq_true rfl)) dX13_stretch__7 ⟨(Nat.le_trans (Nat.le_of_ble_eq_true rfl) hRc), (Nat.le_trans (Nat.le_of_ble_eq_true rfl) hRs)⟩) hS (fun q _ h => hFc q h) hFc (fun r_3 M_4 t H_2 locs ht hvm hw hB hz1 hk1 hS => ?_)
  have hp_5 := hw
  obtain ⟨hP1, hD1⟩ := hB
  rw [ht] at hP1
  have hP : va_P D vwCl ([(za, (b13_0 0 z1 (nI z2) (nI z3) z4 z5 z6 z7 z8 z9 (nI z10) z11 z12 z13 z14 z15 (nI z16) z17 z18 z19))] ++ va_pl L M) H_2 := hP1
  have hD : va_D A ([(za, (b13_0 0 z1 (nI z2) (nI z3) z4 z5 z6 z7 z8 z9 (nI z10) z11 z12 z13 z14 z15 (nI z16) z17 z18 z19))] ++ va_pl L M) := hD1.mono hFc
  rcases hp_5 with ⟨rfl, c_6, c_7⟩ | rfl
  · have hz := rfl (a := 0)
    refine lv_if_eq (tgt := 30) hx hb dX13_stretch__10 (by decide) (fun c_8 => absurd c_8 (by decide)) (fun _ => ?_)
    refine lv_iload_n hx hb dX13_stretch__13 rfl (lv_at hl 2 rfl) ?_
    refine lv_if_lt (tgt := 30) hx hb dX13_stretch__14 (by decide) (fun c_9 => ?_) (fun c_9 => ?_)
    · have hz := rfl (a := 0)
      refine lv_lconst (v := 0) hx hb dX13_stretch__30 (by decide) ?_
      rw [hQ]
      exact W.lret (v := 0) hx hb hr (fun t ht hW9 => ⟨⟨0, (), rfl, trivial, ⟨by rw [ht]; exact hP, hD⟩⟩, hS.F ht⟩) hS.2.2 dX13_stretch__31
    · have hz := rfl (a := 0)
      refine lv_iload_n hx hb dX13_stretch__17 rfl (lv_at hl 2 rfl) ?_
      refine lv_aload_n hx hb dX13_stretch__18 rfl (lv_at hl 0 rfl) ?_
      refine va_get (D := D) (ci := 13) (v := .ref z1) (C := RX13) (T := TX13) (N := 20) hx hb hg inG13 hown hK hP 0 rfl rfl 1 (by decide) (hg _ wd_739) (fun _ h9 => h9) rfl dX13_stretch__19 ?_
      refine lv_iload_n hx hb dX13_stretch__22 rfl (lv_at hl 1 rfl) ?_
      obtain ⟨f10, hM10, hf10⟩ := hW.open_23 i1
      have hi_11 : vp_in k1 8 := (inbW (a := z2) (by omega) (inb k1 z2 (by omega) c_6 c_7))
      refine pg_aldq hx hb hK hP i1.1 9 hM10 rfl hi_11 dX13_stretch__23 ?_
      obtain ⟨b12, eb_13, hb_14⟩ := hf10 _ (vp_lt hi_11)
      rw [eb_13]
      obtain ⟨fs15, hM15, hn15, hl15⟩ := hW.open_12 hb_14
      obtain ⟨v16, hv16, hc16⟩ : ∃ v : Nat, fs15[17]? = some (.int (nI v) : Value) ∧ v ≤ 120 := hl15 17 (by decide)
      refine pg_getN (D := D) (ci := 12) (v := .int (nI v16)) (C := RX12) (T := TX12) (N := 51) hx hb hg inG12 hown hK hP hb_14.1 hM15 rfl 17 (by decide) (hN.use (Cond.fieldLinkNest RX13 256 RX12 "stretches" "I" RX13) 26 rfl rfl) (fun _ h9 => h9) hv16 dX13_stretch__24 ?_
      refine lv_icmp_lt (tgt := 32) hx hb dX13_stretch__27 (by decide) (fun c_17 => ?_) (fun c_17 => ?_)
      · have hz := rfl (a := 0)
        have n_18 : ¬ 120 ≤ k2 := ltB (b := 120) (by decide) hc16 c_17
        refine lv_aload_n hx hb dX13_stretch__32 rfl (lv_at hl 0 rfl) ?_
        refine va_get (D := D) (ci := 13) (v := .ref z1) (C := RX13) (T := TX13) (N := 20) hx hb hg inG13 hown hK hP 0 rfl rfl 1 (by decide) (hg _ wd_739) (fun _ h9 => h9) rfl dX13_stretch__33 ?_
        refine lv_iload_n hx hb dX13_stretch__36 rfl (lv_at hl 1 rfl) ?_
        have hi_19 : vp_in k1 8 := (inbW (a := z2) (by omega) (inb k1 z2 (by omega) c_6 c_7))
        refine pg_aldq hx hb hK hP i1.1 9 hM10 rfl hi_19 dX13_stretch__37 ?_
        rw [show f10 (k1 : Int32).toNatClampNeg = some b12 from eb_13]
        refine lv_astore (lv' := [(4, .ref b12), (0, .ref za), (1, .int k1), (2, .int k2), (3, .int k3)]) hx hb dX13_stretch__38 hl (by decide) rfl (fun ls hl => ?_)
        refine lv_iload_n hx hb dX13_stretch__40 rfl (lv_at hl 4 rfl) ?_
        by_cases hout : (k3 : Int32).toInt < 0 ∨ 5 < (k3 : Int32).toInt
        · refine lv_tableOut (tgt := 131) hx hb dX13_stretch__41 hout (by decide) ?_
          refine lv_lconst (v := 0) hx hb dX13_stretch__131 (by decide) ?_
          rw [hQ]
          exact W.lret (v := 0) hx hb hr (fun t ht hW9 => ⟨⟨0, (), rfl, trivial, ⟨by rw [ht]; exact hP, hD⟩⟩, hS.F ht⟩) hS.2.2 dX13_stretch__132
        · obtain ⟨j_20, hj, hj2⟩ : ∃ j : Nat, j ≤ 5 ∧ (k3 : Int32).toInt = (j : Int) := ⟨(k3 : Int32).toInt.toNat, by omega, by omega⟩
          rcases (show j_20 = 0 ∨ j_20 = 1 ∨ j_20 = 2 ∨ j_20 = 3 ∨ j_20 = 4 ∨ j_20 = 5 by omega) with rfl | rfl | rfl | rfl | rfl | rfl
          · refine lv_tableIn (tgt := 80) hx hb dX13_stretch__41 (by omega) (by omega) (by rw [hj2]; rfl) (by decide) ?_
            refine lv_aload hx hb dX13_stretch__80 (lv_at hl 0 rfl) ?_
            obtain ⟨v21, hv21, hc21⟩ : ∃ v : Nat, fs15[44]? = some (.ref v : Value) ∧ isk K L v 45 120 := hl15 44 (by decide)
            refine pg_getN (D := D) (ci := 12) (v := .ref v21) (C := RX12) (T := TX12) (N := 51) hx hb hg inG12 hown hK hP hb_14.1 hM15 rfl 44 (by decide) (hN.use (Cond.fieldLinkNest RX13 265 RX12 "stretchDay" "[I" RX13) 53 rfl rfl) (fun _ h9 => h9) hv21 dX13_stretch__82 ?_
            refine lv_iload_n hx hb dX13_stretch__85 rfl (lv_at hl 3 rfl) ?_
            obtain ⟨f22, hM22, hf22⟩ := hW.open_45 hc21
            have hi_23 : vp_in k2 120 := (inb k2 120 (by omega) c_9 n_18)
            refine pg_iald hx hb hK hP hc21.1 0 hM22 rfl hi_23 dX13_stretch__86 ?_
            have hp_24 := hf22 _ (vp_lt hi_23)
            obtain ⟨c_25, hc_26, ec_27⟩ := hp_24
            rw [ec_27]
            refine lv_i2l hx hb dX13_stretch__87 rfl ?_
            refine lv_topl (fun f_28 ef_28 => ?_)
            rw [hQ]
            exact W.lret (v := f_28) hx hb hr (fun t ht hW9 => ⟨⟨f_28, (), rfl, trivial, ⟨by rw [ht]; exact hP, hD⟩⟩, hS.F ht⟩) hS.2.2 dX13_stretch__88
          · refine lv_tableIn (tgt := 89) hx hb dX13_stretch__41 (by omega) (by omega) (by rw [hj2]; rfl) (by decide) ?_
            refine lv_aload hx hb dX13_stretch__89 (lv_at hl 0 rfl) ?_
            obtain ⟨v29, hv29, hc29⟩ : ∃ v : Nat, fs15[45]? = some (.ref v : Value) ∧ isk K L v 46 120 := hl15 45 (by decide)
            refine pg_getN (D := D) (ci := 12) (v := .ref v29) (C := RX12) (T := TX12) (N := 51) hx hb hg inG12 hown hK hP hb_14.1 hM15 rfl 45 (by decide) (hN.use (Cond.fieldLinkNest RX13 268 RX12 "stretchDays" "[I" RX13) 54 rfl rfl) (fun _ h9 => h9) hv29 dX13_stretch__91 ?_
            refine lv_iload_n hx hb dX13_stretch__94 rfl (lv_at hl 3 rfl) ?_
            obtain ⟨f30, hM30, hf30⟩ := hW.open_46 hc29
            have hi_31 : vp_in k2 120 := (inb k2 120 (by omega) c_9 n_18)
            refine pg_iald hx hb hK hP hc29.1 0 hM30 rfl hi_31 dX13_stretch__95 ?_
            have hp_32 := hf30 _ (vp_lt hi_31)
            obtain ⟨c_33, hc_34, ec_35⟩ := hp_32
            rw [ec_35]
            refine lv_i2l hx hb dX13_stretch__96 rfl ?_
            refine lv_topl (fun f_36 ef_36 => ?_)
            rw [hQ]
            exact W.lret (v := f_36) hx hb hr (fun t ht hW9 => ⟨⟨f_36, (), rfl, trivial, ⟨by rw [ht]; exact hP, hD⟩⟩, hS.F ht⟩) hS.2.2 dX13_stretch__97
          · refine lv_tableIn (tgt := 98) hx hb dX13_stretch__41 (by omega) (by omega) (by rw [hj2]; rfl) (by decide) ?_
            refine lv_aload hx hb dX13_stretch__98 (lv_at hl 0 rfl) ?_
            obtain ⟨v37, hv37, hc37⟩ : ∃ v : Nat, fs15[47]? = some (.ref v : Value) ∧ isk K L v 93 120 := hl15 47 (by decide)
            refine pg_getN (D := D) (ci := 12) (v := .ref v37) (C := RX12) (T := TX12) (N := 51) hx hb hg inG12 hown hK hP hb_14.1 hM15 rfl 47 (by decide) (hN.use (Cond.fieldLinkNest RX13 301 RX12 "result" "[J" RX13) 56 rfl rfl) (fun _ h9 => h9) hv37 dX13_stretch__100 ?_
            refine lv_iload_n hx hb dX13_stretch__103 rfl (lv_at hl 3 rfl) ?_
            obtain ⟨f38, hM38⟩ := hW.open_93 hc37
            refine pg_lald hx hb hK hP hc37.1 1 hM38 rfl (inb k2 120 (by omega) c_9 n_18) dX13_stretch__104 ?_
            refine lv_topl (fun f_39 ef_39 => ?_)
            rw [hQ]
            exact W.lret (v := f_39) hx hb hr (fun t ht hW9 => ⟨⟨f_39, (), rfl, trivial, ⟨by rw [ht]; exact hP, hD⟩⟩, hS.F ht⟩) hS.2.2 dX13_stretch__105
          · refine lv_tableIn (tgt := 106) hx hb dX13_stretch__41 (by omega) (by omega) (by rw [hj2]; rfl) (by decide) ?_
            refine lv_aload hx hb dX13_stretch__106 (lv_at hl 0 rfl) ?_
            obtain ⟨v40, hv40, hc40⟩ : ∃ v : Nat, fs15[48]? = some (.ref v : Value) ∧ isk K L v 94 120 := hl15 48 (by decide)
            refine pg_getN (D := D) (ci := 12) (v := .ref v40) (C := RX12) (T := TX12) (N := 51) hx hb hg inG12 hown hK hP hb_14.1 hM15 rfl 48 (by decide) (hN.use (Cond.fieldLinkNest RX13 304 RX12 "none" "[J" RX13) 57 rfl rfl) (fun _ h9 => h9) hv40 dX13_stretch__108 ?_
            refine lv_iload_n hx hb dX13_stretch__111 rfl (lv_at hl 3 rfl) ?_
            obtain ⟨f41, hM41⟩ := hW.open_94 hc40
            refine pg_lald hx hb hK hP hc40.1 1 hM41 rfl (inb k2 120 (by omega) c_9 n_18) dX13_stretch__112 ?_
            refine lv_topl (fun f_42 ef_42 => ?_)
            rw [hQ]
            exact W.lret (v := f_42) hx hb hr (fun t ht hW9 => ⟨⟨f_42, (), rfl, trivial, ⟨by rw [ht]; exact hP, hD⟩⟩, hS.F ht⟩) hS.2.2 dX13_stretch__113
          · refine lv_tableIn (tgt := 114) hx hb dX13_stretch__41 (by omega) (by omega) (by rw [hj2]; rfl) (by decide) ?_
            refine lv_aload hx hb dX13_stretch__114 (lv_at hl 0 rfl) ?_
            obtain ⟨v43, hv43, hc43⟩ : ∃ v : Nat, fs15[49]? = some (.ref v : Value) ∧ isk K L v 95 120 := hl15 49 (by decide)
            refine pg_getN (D := D) (ci := 12) (v := .ref v43) (C := RX12) (T := TX12) (N := 51) hx hb hg inG12 hown hK hP hb_14.1 hM15 rfl 49 (by decide) (hN.use (Cond.fieldLinkNest RX13 315 RX12 "all" "[J" RX13) 58 rfl rfl) (fun _ h9 => h9) hv43 dX13_stretch__116 ?_
            refine lv_iload_n hx hb dX13_stretch__119 rfl (lv_at hl 3 rfl) ?_
            obtain ⟨f44, hM44⟩ := hW.open_95 hc43
            refine pg_lald hx hb hK hP hc43.1 1 hM44 rfl (inb k2 120 (by omega) c_9 n_18) dX13_stretch__120 ?_
            refine lv_topl (fun f_45 ef_45 => ?_)
            rw [hQ]
            exact W.lret (v := f_45) hx hb hr (fun t ht hW9 => ⟨⟨f_45, (), rfl, trivial, ⟨by rw [ht]; exact hP, hD⟩⟩, hS.F ht⟩) hS.2.2 dX13_stretch__121
          · refine lv_tableIn (tgt := 122) hx hb dX13_stretch__41 (by omega) (by omega) (by rw [hj2]; rfl) (by decide) ?_
            refine lv_aload hx hb dX13_stretch__122 (lv_at hl 0 rfl) ?_
            obtain ⟨v46, hv46, hc46⟩ : ∃ v : Nat, fs15[46]? = some (.ref v : Value) ∧ isk K L v 83 120 := hl15 46 (by decide)
            refine pg_getN (D := D) (ci := 12) (v := .ref v46) (C := RX12) (T := TX12) (N := 51) hx hb hg inG12 hown hK hP hb_14.1 hM15 rfl 46 (by decide) (hN.use (Cond.fieldLinkNest RX13 318 RX12 "stretchIn" "[I" RX13) 55 rfl rfl) (fun _ h9 => h9) hv46 dX13_stretch__124 ?_
            refine lv_iload_n hx hb dX13_stretch__127 rfl (lv_at hl 3 rfl) ?_
            obtain ⟨f47, hM47⟩ := hW.open_83 hc46
            refine pg_iald hx hb hK hP hc46.1 0 hM47 rfl (inb k2 120 (by omega) c_9 n_18) dX13_stretch__128 ?_
            refine lv_topi (fun f_48 ef_48 => ?_)
            refine lv_i2l hx hb dX13_stretch__129 rfl ?_
            refine lv_topl (fun f_49 ef_49 => ?_)
            rw [hQ]
            exact W.lret (v := f_49) hx hb hr (fun t ht hW9 => ⟨⟨f_49, (), rfl, trivial, ⟨by rw [ht]; exact hP, hD⟩⟩, hS.F ht⟩) hS.2.2 dX13_stretch__130
      · have hz := rfl (a := 0)
        refine lv_lconst (v := 0) hx hb dX13_stretch__30 (by decide) ?_
        rw [hQ]
        exact W.lret (v := 0) hx hb hr (fun t ht hW9 => ⟨⟨0, (), rfl, trivial, ⟨by rw [ht]; exact hP, hD⟩⟩, hS.F ht⟩) hS.2.2 dX13_stretch__31
  · have hz := rfl (a := 0)
    refine lv_if_eq (tgt := 30) hx hb dX13_stretch__10 (by decide) (fun _ => ?_) (fun c_50 => absurd c_50 (by decide))
    refine lv_lconst (v := 0) hx hb dX13_stretch__30 (by decide) ?_
    rw [hQ]
    exact W.lret (v := 0) hx hb hr (fun t ht hW9 => ⟨⟨0, (), rfl, trivial, ⟨by rw [ht]; exact hP, hD⟩⟩, hS.F ht⟩) hS.2.2 dX13_stretch__31
set_option maxHeartbeats 4000000 in
set_option maxRecDepth 100000 in
theorem r_X13_due (l : Launch) (D : va_G) (cy : Nat → ClassId) (K : Kp) (L : List Nat) (M : Hp) (sz : Nat) (za : Nat) (z0 : Int32) (z1 : Nat) (z2 : Nat) (z3 : Nat) (z4 : Int32) (z5 : Int32) (z6 : Nat) (z7 : Nat) (z8 : Nat) (z9 : Nat) (z10 : Nat) (z11 : Nat) (z12 : Nat) (z13 : Nat) (z14 : Nat) (z15 : Nat) (z16 : Nat) (z17 : Nat) (z18 : Int32) (z19 : Nat) (k1 : Int32) (k2 : Int32) (k3 : Int32) (hW : WOM cy K L M) (i1 : isk K L z1 23 8) (b2 : z2 ≤ 8) (b3 : z3 ≤ 40) (i6 : isk K L z6 47 40) (i7 : isk K L z7 48 40) (i8 : isk K L z8 49 8) (i9 : isk K L z9 50 8) (b10 : z10 ≤ 8) (i11 : isk K L z11 32 24) (i12 : isk K L z12 14 24) (i13 : isk K L z13 97 24) (i14 : isk K L z14 98 24) (i15 : isk K L z15 99 24) (b16 : z16 ≤ 24) (i17 : isk K L z17 14 24) (i19 : isk K L z19 15 25) : Met l yX13_due (wsM yX13_due cX13_due 4 (some .long)) ({ frames := 2, cells := 0, slots := 0, locals := 43 }) (va_Pc [.ref za, .int k1, .int k2, .int k3] (PG D cy [(za, (b13_0 z0 z1 (nI z2) (nI z3) z4 z5 z6 z7 z8 z9 (nI z10) z11 z12 z13 z14 z15 (nI z16) z17 z18 z19))] L M sz)) (va_Ql (fun (r : Int64) (_ : Unit) => True) (fun _ t => PQ D [(za, (b13_0 0 z1 (nI z2) (nI z3) z4 z5 z6 z7 z8 z9 (nI z10) z11 z12 z13 z14 z15 (nI z16) z17 z18 z19))] L M (va_A ([(za, (b13_0 z0 z1 (nI z2) (nI z3) z4 z5 z6 z7 z8 z9 (nI z10) z11 z12 z13 z14 z15 (nI z16) z17 z18 z19))] ++ va_pl L M) sz) t) (va_A ([(za, (b13_0 z0 z1 (nI z2) (nI z3) z4 z5 z6 z7 z8 z9 (nI z10) z11 z12 z13 z14 z15 (nI z16) z17 z18 z19))] ++ va_pl L M) sz)) 0 0 (va_A ([(za, (b13_0 z0 z1 (nI z2) (nI z3) z4 z5 z6 z7 z8 z9 (nI z10) z11 z12 z13 z14 z15 (nI z16) z17 z18 z19))] ++ va_pl L M) sz) := by
  refine Met.ofW (cc := cX13_due) (maxL := 4) (ret := (some .long)) (by decide) rfl ?_
  intro p e s m args below meth c s₁ B hml hv
  obtain ⟨rfl, hsz, hP, hK, hD0, hN⟩ := hv
  have hx := B.exec
  have hb := B.bytes
  have hr := B.returns
  have hts := atoms_spec (ws := (wsM yX13_due cX13_due 4 (some .long))) B.pre
  have hg : ∀ w ∈ lw_good, w.before _ s = true := fun w h => hts w (List.mem_cons_of_mem _ h)
  have hown : s.vm.findClass RX13 = some m.cls := findClass_of_methodNamed B.named
  have hlocks := B.notSynchronized
  subst hsz
  have hD := hD0.self (sz := s.heap.size)
  generalize hAe : va_A ([(za, (b13_0 z0 z1 (nI z2) (nI z3) z4 z5 z6 z7 z8 z9 (nI z10) z11 z12 z13 z14 z15 (nI z16) z17 z18 z19))] ++ va_pl L M) s.heap.size = A at hD ⊢
  have hA : ∀ q : Nat, s.heap.size ≤ q → A q := fun q h => by rw [← hAe]; exact Or.inr h
  have hS : va_S A s.heap s.heap [] := va_S.rf
  have hl := lv_entry ([.ref za, .int k1, .int k2, .int k3]) (n := 4) (Nat.le_of_ble_eq_true rfl)
  rw [lg_entry_eq]
  generalize (lg_sl ([.ref za, .int k1, .int k2, .int k3]) ++ List.replicate (4 - (lg_sl ([.ref za, .int k1, .int k2, .int k3])).length) Slot.unset).toArray = ls at hl ⊢
  refine W.nameQ (fun Q hQ => ?_)
  refine W.nameR (fun R hR => ?_)
  have hRf : 2 ≤ R.frames := by rw [hR]; exact Nat.le_of_ble_eq_true rfl
  have hRl : 43 ≤ R.locals := by rw [hR]; exact Nat.le_of_ble_eq_true rfl
  have hRc : 0 ≤ R.cells := by rw [hR]; exact Nat.le_of_ble_eq_true rfl
  have hRs : 0 ≤ R.slots := by rw [hR]; exact Nat.le_of_ble_eq_true rfl
  have hl : lv_has ls 4 [(0, .ref za), (1, .int k1), (2, .int k2), (3, .int k3)] := hl
  refine lv_aload_n hx hb dX13_due_0 rfl (lv_at hl 0 rfl) ?_
  refine lv_iconst (v := 0) hx hb dX13_due_1 (by decide) ?_
  refine va_put (D := D) (ci := 13) (v := .int 0) (ty := .int) (C := RX13) (T := TX13) (N := 20) hx hb hg inG13 tyX13 tyX13_ok nmX13 hown hK hP hD hS 0 rfl rfl 0 (by decide) (hg _ wd_720) (fun _ h9 => h9) rfl (by decide +kernel) rfl rfl (Nat.le_of_ble_eq_true rfl) dX13_due_2 (fun H_1 locs hP hD hS => ?_)
  have hP : va_P D vwCl ([(za, (b13_0 0 z1 (nI z2) (nI z3) z4 z5 z6 z7 z8 z9 (nI z10) z11 z12 z13 z14 z15 (nI z16) z17 z18 z19))] ++ va_pl L M) H_1 := hP
  have hD : va_D A ([(za, (b13_0 0 z1 (nI z2) (nI z3) z4 z5 z6 z7 z8 z9 (nI z10) z11 z12 z13 z14 z15 (nI z16) z17 z18 z19))] ++ va_pl L M) := hD
  refine lv_aload_n hx hb dX13_due_5 rfl (lv_at hl 0 rfl) ?_
  refine lv_iload_n hx hb dX13_due_6 rfl (lv_at hl 1 rfl) ?_
  refine lv_iload_n hx hb dX13_due_7 rfl (lv_at hl 3 rfl) ?_
  have hPc : va_P D vwCl ([(za, (b13_0 0 z1 (nI z2) (nI z3) z4 z5 z6 z7 z8 z9 (nI z10) z11 z12 z13 z14 z15 (nI z16) z17 z18 z19))] ++ va_pl L M) H_1 := hP
  have hDc : va_D A ([(za, (b13_0 0 z1 (nI z2) (nI z3) z4 z5 z6 z7 z8 z9 (nI z10) z11 z12 z13 z14 z15 (nI z16) z17 z18 z19))] ++ va_pl L M) := hD
  have hFc : ∀ q, va_A ([(za, (b13_0 0 z1 (nI z2) (nI z3) z4 z5 z6 z7 z8 z9 (nI z10) z11 z12 z13 z14 z15 (nI z16) z17 z18 z19))] ++ va_pl L M) H_1.size q → A q := pg_free hDc hS hA
  refine va_calli (va_runV (As := [.int k1, .int k3]) (rest := []) ⟨hx, hb, hml, hown, hg⟩ (r_X13_isTenure l D cy K L M H_1.size za 0 z1 z2 z3 z4 z5 z6 z7 z8 z9 z10 z11 z12 z13 z14 z15 z16 z17 z18 z19 k1 k3  hW i1 b2 b3 i6 i7 i8 i9 b10 i11 i12 i13 i14 i15 b16 i17 i19) (cwV 2 hg (gV wd_740 wd_741 wd_742 wd_717 wd_743) rfl rfl rfl (by decide +kernel) ⟨(Nat.le_trans (Nat.le_of_ble_eq_true rfl) hRf), (Nat.le_trans (Nat.le_of_ble_eq_true rfl) hRl)⟩) ⟨PG.blind, va_recv hK hP (ci := 13) (q0 := 0) rfl rfl, fun U hU hW => ⟨rfl, PG.at hPc hK hDc hN hU hW⟩⟩ rfl rfl hl.1 rfl (lv_room (Nat.le_of_ble_eq_true rfl)) dX13_due_8 ⟨(Nat.le_trans (Nat.le_of_ble_eq_true rfl) hRc), (Nat.le_trans (Nat.le_of_ble_eq_true rfl) hRs)⟩) hS (fun q _ h => hFc q h) hFc (fun r_3 M_4 t H_2 locs ht hvm hw hB hz1 hk1 hS => ?_)
  have hp_5 := hw
  obtain ⟨hP1, hD1⟩ := hB
  rw [ht] at hP1
  have hP : va_P D vwCl ([(za, (b13_0 0 z1 (nI z2) (nI z3) z4 z5 z6 z7 z8 z9 (nI z10) z11 z12 z13 z14 z15 (nI z16) z17 z18 z19))] ++ va_pl L M) H_2 := hP1
  have hD : va_D A ([(za, (b13_0 0 z1 (nI z2) (nI z3) z4 z5 z6 z7 z8 z9 (nI z10) z11 z12 z13 z14 z15 (nI z16) z17 z18 z19))] ++ va_pl L M) := hD1.mono hFc
  rcases hp_5 with ⟨rfl, c_6, c_7, c_8, c_9⟩ | rfl
  · have hz := rfl (a := 0)
    refine lv_if_eq (tgt := 50) hx hb dX13_due_11 (by decide) (fun c_10 => absurd c_10 (by decide)) (fun _ => ?_)
    refine lv_iload_n hx hb dX13_due_14 rfl (lv_at hl 2 rfl) ?_
    refine lv_if_lt (tgt := 50) hx hb dX13_due_15 (by decide) (fun c_11 => ?_) (fun c_11 => ?_)
    · have hz := rfl (a := 0)
      refine lv_lconst (v := 0) hx hb dX13_due_50 (by decide) ?_
      rw [hQ]
      exact W.lret (v := 0) hx hb hr (fun t ht hW9 => ⟨⟨0, (), rfl, trivial, ⟨by rw [ht]; exact hP, hD⟩⟩, hS.F ht⟩) hS.2.2 dX13_due_51
    · have hz := rfl (a := 0)
      refine lv_iload_n hx hb dX13_due_18 rfl (lv_at hl 2 rfl) ?_
      refine lv_aload_n hx hb dX13_due_19 rfl (lv_at hl 0 rfl) ?_
      refine va_get (D := D) (ci := 13) (v := .ref z1) (C := RX13) (T := TX13) (N := 20) hx hb hg inG13 hown hK hP 0 rfl rfl 1 (by decide) (hg _ wd_739) (fun _ h9 => h9) rfl dX13_due_20 ?_
      refine lv_iload_n hx hb dX13_due_23 rfl (lv_at hl 1 rfl) ?_
      obtain ⟨f12, hM12, hf12⟩ := hW.open_23 i1
      have hi_13 : vp_in k1 8 := (inbW (a := z2) (by omega) (inb k1 z2 (by omega) c_6 c_7))
      refine pg_aldq hx hb hK hP i1.1 9 hM12 rfl hi_13 dX13_due_24 ?_
      obtain ⟨b14, eb_15, hb_16⟩ := hf12 _ (vp_lt hi_13)
      rw [eb_15]
      obtain ⟨fs17, hM17, hn17, hl17⟩ := hW.open_12 hb_16
      obtain ⟨v18, hv18, hc18⟩ : ∃ v : Nat, fs17[17]? = some (.int (nI v) : Value) ∧ v ≤ 120 := hl17 17 (by decide)
      refine pg_getN (D := D) (ci := 12) (v := .int (nI v18)) (C := RX12) (T := TX12) (N := 51) hx hb hg inG12 hown hK hP hb_16.1 hM17 rfl 17 (by decide) (hN.use (Cond.fieldLinkNest RX13 256 RX12 "stretches" "I" RX13) 26 rfl rfl) (fun _ h9 => h9) hv18 dX13_due_25 ?_
      refine lv_icmp_ge (tgt := 50) hx hb dX13_due_28 (by decide) (fun c_19 => ?_) (fun c_19 => ?_)
      · have hz := rfl (a := 0)
        refine lv_lconst (v := 0) hx hb dX13_due_50 (by decide) ?_
        rw [hQ]
        exact W.lret (v := 0) hx hb hr (fun t ht hW9 => ⟨⟨0, (), rfl, trivial, ⟨by rw [ht]; exact hP, hD⟩⟩, hS.F ht⟩) hS.2.2 dX13_due_51
      · have hz := rfl (a := 0)
        have n_20 : ¬ 120 ≤ k2 := ltB (b := 120) (by decide) hc18 (Int32.not_le.mp c_19)
        refine lv_aload_n hx hb dX13_due_31 rfl (lv_at hl 0 rfl) ?_
        refine va_get (D := D) (ci := 13) (v := .ref z1) (C := RX13) (T := TX13) (N := 20) hx hb hg inG13 hown hK hP 0 rfl rfl 1 (by decide) (hg _ wd_739) (fun _ h9 => h9) rfl dX13_due_32 ?_
        refine lv_iload_n hx hb dX13_due_35 rfl (lv_at hl 1 rfl) ?_
        have hi_21 : vp_in k1 8 := (inbW (a := z2) (by omega) (inb k1 z2 (by omega) c_6 c_7))
        refine pg_aldq hx hb hK hP i1.1 9 hM12 rfl hi_21 dX13_due_36 ?_
        rw [show f12 (k1 : Int32).toNatClampNeg = some b14 from eb_15]
        obtain ⟨v22, hv22, hc22⟩ : ∃ v : Nat, fs17[50]? = some (.ref v : Value) ∧ isk K L v 96 2880 := hl17 50 (by decide)
        refine pg_getN (D := D) (ci := 12) (v := .ref v22) (C := RX12) (T := TX12) (N := 51) hx hb hg inG12 hown hK hP hb_16.1 hM17 rfl 50 (by decide) (hN.use (Cond.fieldLinkNest RX13 312 RX12 "due" "[J" RX13) 59 rfl rfl) (fun _ h9 => h9) hv22 dX13_due_37 ?_
        refine lv_bipush (v := 24) hx hb dX13_due_40 (by decide) ?_
        refine lv_iload_n hx hb dX13_due_42 rfl (lv_at hl 2 rfl) ?_
        obtain ⟨j_23, hj_24, rfl⟩ := i32nat 120 (by decide) c_11 n_20
        refine lv_imul hx hb dX13_due_43 ?_
        refine lv_topi (fun f_25 ef_25 => ?_)
        obtain rfl : f_25 = (nI (24 * j_23)) := ef_25.trans (nI_mul 24 j_23)
        refine lv_iload_n hx hb dX13_due_44 rfl (lv_at hl 3 rfl) ?_
        obtain ⟨j_26, hj_27, rfl⟩ := i32nat 24 (by decide) c_8 c_9
        refine lv_iadd hx hb dX13_due_45 ?_
        refine lv_topi (fun f_28 ef_28 => ?_)
        obtain rfl : f_28 = (nI ((24 * j_23) + j_26)) := ef_28.trans (nI_add (24 * j_23) j_26)
        obtain ⟨f29, hM29⟩ := hW.open_96 hc22
        refine pg_lald hx hb hK hP hc22.1 1 hM29 rfl (inbN ((24 * j_23) + j_26) 2880 (by omega) (by omega)) dX13_due_46 ?_
        refine lv_topl (fun f_30 ef_30 => ?_)
        refine lv_goto (tgt := 51) hx hb dX13_due_47 (by decide) ?_
        rw [hQ]
        exact W.lret (v := f_30) hx hb hr (fun t ht hW9 => ⟨⟨f_30, (), rfl, trivial, ⟨by rw [ht]; exact hP, hD⟩⟩, hS.F ht⟩) hS.2.2 dX13_due_51
  · have hz := rfl (a := 0)
    refine lv_if_eq (tgt := 50) hx hb dX13_due_11 (by decide) (fun _ => ?_) (fun c_31 => absurd c_31 (by decide))
    refine lv_lconst (v := 0) hx hb dX13_due_50 (by decide) ?_
    rw [hQ]
    exact W.lret (v := 0) hx hb hr (fun t ht hW9 => ⟨⟨0, (), rfl, trivial, ⟨by rw [ht]; exact hP, hD⟩⟩, hS.F ht⟩) hS.2.2 dX13_due_51
set_option maxHeartbeats 4000000 in
set_option maxRecDepth 100000 in
theorem r_X13_who (l : Launch) (D : va_G) (cy : Nat → ClassId) (K : Kp) (L : List Nat) (M : Hp) (sz : Nat) (za : Nat) (z0 : Int32) (z1 : Nat) (z2 : Nat) (z3 : Nat) (z4 : Int32) (z5 : Int32) (z6 : Nat) (z7 : Nat) (z8 : Nat) (z9 : Nat) (z10 : Nat) (z11 : Nat) (z12 : Nat) (z13 : Nat) (z14 : Nat) (z15 : Nat) (z16 : Nat) (z17 : Nat) (z18 : Int32) (z19 : Nat) (k1 : Int32) (k2 : Int32) (k3 : Int32) (hW : WOM cy K L M) (i1 : isk K L z1 23 8) (b2 : z2 ≤ 8) (b3 : z3 ≤ 40) (i6 : isk K L z6 47 40) (i7 : isk K L z7 48 40) (i8 : isk K L z8 49 8) (i9 : isk K L z9 50 8) (b10 : z10 ≤ 8) (i11 : isk K L z11 32 24) (i12 : isk K L z12 14 24) (i13 : isk K L z13 97 24) (i14 : isk K L z14 98 24) (i15 : isk K L z15 99 24) (b16 : z16 ≤ 24) (i17 : isk K L z17 14 24) (i19 : isk K L z19 15 25) : Met l yX13_who (wsM yX13_who cX13_who 7 (some .int)) ({ frames := 2, cells := 0, slots := 0, locals := 43 }) (va_Pc [.ref za, .int k1, .int k2, .int k3] (PG D cy [(za, (b13_0 z0 z1 (nI z2) (nI z3) z4 z5 z6 z7 z8 z9 (nI z10) z11 z12 z13 z14 z15 (nI z16) z17 z18 z19))] L M sz)) (va_Qi (fun (r : Int32) (_ : Unit) => True) (fun _ t => PQ D [(za, (b13_0 0 z1 (nI z2) (nI z3) z4 z5 z6 z7 z8 z9 (nI z10) z11 z12 z13 z14 z15 (nI z16) z17 z18 z19))] L M (va_A ([(za, (b13_0 z0 z1 (nI z2) (nI z3) z4 z5 z6 z7 z8 z9 (nI z10) z11 z12 z13 z14 z15 (nI z16) z17 z18 z19))] ++ va_pl L M) sz) t) (va_A ([(za, (b13_0 z0 z1 (nI z2) (nI z3) z4 z5 z6 z7 z8 z9 (nI z10) z11 z12 z13 z14 z15 (nI z16) z17 z18 z19))] ++ va_pl L M) sz)) 0 0 (va_A ([(za, (b13_0 z0 z1 (nI z2) (nI z3) z4 z5 z6 z7 z8 z9 (nI z10) z11 z12 z13 z14 z15 (nI z16) z17 z18 z19))] ++ va_pl L M) sz) := by
  refine Met.ofW (cc := cX13_who) (maxL := 7) (ret := (some .int)) (by decide) rfl ?_
  intro p e s m args below meth c s₁ B hml hv
  obtain ⟨rfl, hsz, hP, hK, hD0, hN⟩ := hv
  have hx := B.exec
  have hb := B.bytes
  have hr := B.returns
  have hts := atoms_spec (ws := (wsM yX13_who cX13_who 7 (some .int))) B.pre
  have hg : ∀ w ∈ lw_good, w.before _ s = true := fun w h => hts w (List.mem_cons_of_mem _ h)
  have hown : s.vm.findClass RX13 = some m.cls := findClass_of_methodNamed B.named
  have hlocks := B.notSynchronized
  subst hsz
  have hD := hD0.self (sz := s.heap.size)
  generalize hAe : va_A ([(za, (b13_0 z0 z1 (nI z2) (nI z3) z4 z5 z6 z7 z8 z9 (nI z10) z11 z12 z13 z14 z15 (nI z16) z17 z18 z19))] ++ va_pl L M) s.heap.size = A at hD ⊢
  have hA : ∀ q : Nat, s.heap.size ≤ q → A q := fun q h => by rw [← hAe]; exact Or.inr h
  have hS : va_S A s.heap s.heap [] := va_S.rf
  have hl := lv_entry ([.ref za, .int k1, .int k2, .int k3]) (n := 7) (Nat.le_of_ble_eq_true rfl)
  rw [lg_entry_eq]
  generalize (lg_sl ([.ref za, .int k1, .int k2, .int k3]) ++ List.replicate (7 - (lg_sl ([.ref za, .int k1, .int k2, .int k3])).length) Slot.unset).toArray = ls at hl ⊢
  refine W.nameQ (fun Q hQ => ?_)
  refine W.nameR (fun R hR => ?_)
  have hRf : 2 ≤ R.frames := by rw [hR]; exact Nat.le_of_ble_eq_true rfl
  have hRl : 43 ≤ R.locals := by rw [hR]; exact Nat.le_of_ble_eq_true rfl
  have hRc : 0 ≤ R.cells := by rw [hR]; exact Nat.le_of_ble_eq_true rfl
  have hRs : 0 ≤ R.slots := by rw [hR]; exact Nat.le_of_ble_eq_true rfl
  have hl : lv_has ls 7 [(0, .ref za), (1, .int k1), (2, .int k2), (3, .int k3)] := hl
  refine lv_aload_n hx hb dX13_who_0 rfl (lv_at hl 0 rfl) ?_
  refine lv_iconst (v := 0) hx hb dX13_who_1 (by decide) ?_
  refine va_put (D := D) (ci := 13) (v := .int 0) (ty := .int) (C := RX13) (T := TX13) (N := 20) hx hb hg inG13 tyX13 tyX13_ok nmX13 hown hK hP hD hS 0 rfl rfl 0 (by decide) (hg _ wd_720) (fun _ h9 => h9) rfl (by decide +kernel) rfl rfl (Nat.le_of_ble_eq_true rfl) dX13_who_2 (fun H_1 locs hP hD hS => ?_)
  have hP : va_P D vwCl ([(za, (b13_0 0 z1 (nI z2) (nI z3) z4 z5 z6 z7 z8 z9 (nI z10) z11 z12 z13 z14 z15 (nI z16) z17 z18 z19))] ++ va_pl L M) H_1 := hP
  have hD : va_D A ([(za, (b13_0 0 z1 (nI z2) (nI z3) z4 z5 z6 z7 z8 z9 (nI z10) z11 z12 z13 z14 z15 (nI z16) z17 z18 z19))] ++ va_pl L M) := hD
  refine lv_aload_n hx hb dX13_who_5 rfl (lv_at hl 0 rfl) ?_
  refine lv_iload_n hx hb dX13_who_6 rfl (lv_at hl 1 rfl) ?_
  refine lv_iload_n hx hb dX13_who_7 rfl (lv_at hl 2 rfl) ?_
  have hPc : va_P D vwCl ([(za, (b13_0 0 z1 (nI z2) (nI z3) z4 z5 z6 z7 z8 z9 (nI z10) z11 z12 z13 z14 z15 (nI z16) z17 z18 z19))] ++ va_pl L M) H_1 := hP
  have hDc : va_D A ([(za, (b13_0 0 z1 (nI z2) (nI z3) z4 z5 z6 z7 z8 z9 (nI z10) z11 z12 z13 z14 z15 (nI z16) z17 z18 z19))] ++ va_pl L M) := hD
  have hFc : ∀ q, va_A ([(za, (b13_0 0 z1 (nI z2) (nI z3) z4 z5 z6 z7 z8 z9 (nI z10) z11 z12 z13 z14 z15 (nI z16) z17 z18 z19))] ++ va_pl L M) H_1.size q → A q := pg_free hDc hS hA
  refine va_calli (va_runV (As := [.int k1, .int k2]) (rest := []) ⟨hx, hb, hml, hown, hg⟩ (r_X13_isSeat l D cy K L M H_1.size za 0 z1 z2 z3 z4 z5 z6 z7 z8 z9 z10 z11 z12 z13 z14 z15 z16 z17 z18 z19 k1 k2  hW i1 b2 b3 i6 i7 i8 i9 b10 i11 i12 i13 i14 i15 b16 i17 i19) (cwV 2 hg (gV wd_744 wd_745 wd_746 wd_717 wd_747) rfl rfl rfl (by decide +kernel) ⟨(Nat.le_trans (Nat.le_of_ble_eq_true rfl) hRf), (Nat.le_trans (Nat.le_of_ble_eq_true rfl) hRl)⟩) ⟨PG.blind, va_recv hK hP (ci := 13) (q0 := 0) rfl rfl, fun U hU hW => ⟨rfl, PG.at hPc hK hDc hN hU hW⟩⟩ rfl rfl hl.1 rfl (lv_room (Nat.le_of_ble_eq_true rfl)) dX13_who_8 ⟨(Nat.le_trans (Nat.le_of_ble_eq_true rfl) hRc), (Nat.le_trans (Nat.le_of_ble_eq_true rfl) hRs)⟩) hS (fun q _ h => hFc q h) hFc (fun r_3 M_4 t H_2 locs ht hvm hw hB hz1 hk1 hS => ?_)
  have hp_5 := hw
  obtain ⟨hP1, hD1⟩ := hB
  rw [ht] at hP1
  have hP : va_P D vwCl ([(za, (b13_0 0 z1 (nI z2) (nI z3) z4 z5 z6 z7 z8 z9 (nI z10) z11 z12 z13 z14 z15 (nI z16) z17 z18 z19))] ++ va_pl L M) H_2 := hP1
  have hD : va_D A ([(za, (b13_0 0 z1 (nI z2) (nI z3) z4 z5 z6 z7 z8 z9 (nI z10) z11 z12 z13 z14 z15 (nI z16) z17 z18 z19))] ++ va_pl L M) := hD1.mono hFc
  rcases hp_5 with ⟨rfl, c_6, c_7, c_8, c_9⟩ | rfl
  · have hz := rfl (a := 0)
    refine lv_if_ne (tgt := 16) hx hb dX13_who_11 (by decide) (fun _ => ?_) (fun c_10 => absurd c_10 (by decide))
    refine lv_aload_n hx hb dX13_who_16 rfl (lv_at hl 0 rfl) ?_
    refine va_get (D := D) (ci := 13) (v := .ref z1) (C := RX13) (T := TX13) (N := 20) hx hb hg inG13 hown hK hP 0 rfl rfl 1 (by decide) (hg _ wd_739) (fun _ h9 => h9) rfl dX13_who_17 ?_
    refine lv_iload_n hx hb dX13_who_20 rfl (lv_at hl 1 rfl) ?_
    obtain ⟨f11, hM11, hf11⟩ := hW.open_23 i1
    have hi_12 : vp_in k1 8 := (inbW (a := z2) (by omega) (inb k1 z2 (by omega) c_6 c_7))
    refine pg_aldq hx hb hK hP i1.1 9 hM11 rfl hi_12 dX13_who_21 ?_
    obtain ⟨b13, eb_14, hb_15⟩ := hf11 _ (vp_lt hi_12)
    rw [eb_14]
    refine lv_astore (lv' := [(4, .ref b13), (0, .ref za), (1, .int k1), (2, .int k2), (3, .int k3)]) hx hb dX13_who_22 hl (by decide) rfl (fun ls hl => ?_)
    refine lv_iconst (v := (-1)) hx hb dX13_who_24 (by decide) ?_
    refine lv_istore (lv' := [(5, .int (-1)), (4, .ref b13), (0, .ref za), (1, .int k1), (2, .int k2), (3, .int k3)]) hx hb dX13_who_25 hl (by decide) rfl (fun ls hl => ?_)
    refine lv_iconst (v := 0) hx hb dX13_who_27 (by decide) ?_
    refine lv_istore (lv' := [(6, .int 0), (5, .int (-1)), (4, .ref b13), (0, .ref za), (1, .int k1), (2, .int k2), (3, .int k3)]) hx hb dX13_who_28 hl (by decide) rfl (fun ls hl => ?_)
    have key_16 : ∀ (fu_18 : Nat) (v5w19 : Int32) (v6w19 : Nat) (H_21 : Heap) (locs : List Loc) (ls : Array Slot), 24 - v6w19 < fu_18 → v6w19 ≤ 24 → WOM cy K L M → va_P D vwCl ([(za, (b13_0 0 z1 (nI z2) (nI z3) z4 z5 z6 z7 z8 z9 (nI z10) z11 z12 z13 z14 z15 (nI z16) z17 z18 z19))] ++ va_pl L M) H_21 → va_D A ([(za, (b13_0 0 z1 (nI z2) (nI z3) z4 z5 z6 z7 z8 z9 (nI z10) z11 z12 z13 z14 z15 (nI z16) z17 z18 z19))] ++ va_pl L M) → va_S A s.heap H_21 locs → lv_has ls 7 [(6, .int (nI v6w19)), (5, .int v5w19), (4, .ref b13), (0, .ref za), (1, .int k1), (2, .int k2), (3, .int k3)] → W p l e R s m ([.ref za, .int k1, .int k2, .int k3] : List Value).toArray below meth c H_21 locs 0 0 Q (F0 m 30 ls []) := by
      intro fu_18
      induction fu_18 with
      | zero => intro v5w19 v6w19 H_21 locs ls h; exact absurd h (Nat.not_lt_zero _)
      | succ fu_18 ih_17 =>
        intro v5w19 v6w19 H_21 locs ls hfu hx_20 hW hP hD hS hl
        refine lv_iload hx hb dX13_who_30 (lv_at hl 0 rfl) ?_
        refine lv_aload hx hb dX13_who_32 (lv_at hl 2 rfl) ?_
        obtain ⟨fs22, hM22, hn22, hl22⟩ := hW.open_12 hb_15
        obtain ⟨v23, hv23, hc23⟩ : ∃ v : Nat, fs22[10]? = some (.int (nI v) : Value) ∧ v ≤ 24 := hl22 10 (by decide)
        refine pg_getN (D := D) (ci := 12) (v := .int (nI v23)) (C := RX12) (T := TX12) (N := 51) hx hb hg inG12 hown hK hP hb_15.1 hM22 rfl 10 (by decide) (hN.use (Cond.fieldLinkNest RX13 68 RX12 "tenures" "I" RX13) 19 rfl rfl) (fun _ h9 => h9) hv23 dX13_who_34 ?_
        refine lv_icmp_ge (tgt := 73) hx hb dX13_who_37 (by decide) (fun c_24 => ?_) (fun c_24 => ?_)
        · have hz := rfl (a := 0)
          have n_25 : v23 ≤ v6w19 := (iLE (a := v23) (b := v6w19) (by omega) (by omega)).mp c_24
          refine lv_iload hx hb dX13_who_73 (lv_at hl 1 rfl) ?_
          rw [hQ]
          exact W.iret (v := v5w19) hx hb hr (fun t ht hW9 => ⟨⟨v5w19, (), rfl, trivial, ⟨by rw [ht]; exact hP, hD⟩⟩, hS.F ht⟩) hS.2.2 dX13_who_75
        · have hz := rfl (a := 0)
          have n_26 : ¬ (v23 ≤ v6w19) := fun q => c_24 ((iLE (a := v23) (b := v6w19) (by omega) (by omega)).mpr q)
          refine lv_aload hx hb dX13_who_40 (lv_at hl 2 rfl) ?_
          obtain ⟨v27, hv27, hc27⟩ : ∃ v : Nat, fs22[20]? = some (.ref v : Value) ∧ isk K L v 31 24 := hl22 20 (by decide)
          refine pg_getN (D := D) (ci := 12) (v := .ref v27) (C := RX12) (T := TX12) (N := 51) hx hb hg inG12 hown hK hP hb_15.1 hM22 rfl 20 (by decide) (hN.use (Cond.fieldLinkNest RX13 110 RX12 "where" "[I" RX13) 29 rfl rfl) (fun _ h9 => h9) hv27 dX13_who_42 ?_
          refine lv_iload hx hb dX13_who_45 (lv_at hl 0 rfl) ?_
          obtain ⟨f28, hM28, hf28⟩ := hW.open_31 hc27
          have hi_29 : vp_in (nI v6w19) 24 := (inbN v6w19 24 (by omega) (by omega))
          refine pg_iald hx hb hK hP hc27.1 0 hM28 rfl hi_29 dX13_who_47 ?_
          have hp_30 := hf28 _ (vp_lt hi_29)
          obtain ⟨c_31, hc_32, ec_33⟩ := hp_30
          rw [ec_33]
          refine lv_iload_n hx hb dX13_who_48 rfl (lv_at hl 5 rfl) ?_
          refine lv_icmp_ne (tgt := 67) hx hb dX13_who_49 (by decide) (fun c_34 => ?_) (fun c_34 => ?_)
          · have hz := rfl (a := 0)
            refine lv_iinc (v := (nI (v6w19 + 1))) (lv' := [(6, .int (nI (v6w19 + 1))), (5, .int v5w19), (4, .ref b13), (0, .ref za), (1, .int k1), (2, .int k2), (3, .int k3)]) hx hb dX13_who_67 hl (k := 0) rfl (nI_1 v6w19) (by decide) rfl (fun ls hl => ?_)
            refine lv_goto (tgt := 30) hx hb dX13_who_70 (by decide) ?_
            exact ih_17 v5w19 (v6w19 + 1) H_21 _ _ (by omega) (by omega) hW hP hD hS (lv_sub hl [0, 1, 2, 3, 4, 5, 6] rfl)
          · have hz := rfl (a := 0)
            refine lv_aload hx hb dX13_who_52 (lv_at hl 2 rfl) ?_
            refine lv_iload hx hb dX13_who_54 (lv_at hl 0 rfl) ?_
            refine lv_iload_n hx hb dX13_who_56 rfl (lv_at hl 6 rfl) ?_
            have hPc : va_P D vwCl ([] ++ va_pl L M) H_21 := hP.part (cx := []) [] rfl
            have hDc : va_D A ([] ++ va_pl L M) := hD.part (cx := []) [] (by decide) rfl
            have hFc : ∀ q, va_A ([] ++ va_pl L M) H_21.size q → A q := pg_free hDc hS hA
            refine va_calli (va_runV (As := [.int (nI v6w19), .int k3]) (rest := []) ⟨hx, hb, hml, hown, hg⟩ (r_X12_isIn l D cy K L M H_21.size b13 v6w19 k3  hW hb_15 (by omega)) (cwV 2 hg (gV wd_748 wd_749 wd_750 wd_737 wd_751) rfl rfl rfl (by decide +kernel) ⟨(Nat.le_trans (Nat.le_of_ble_eq_true rfl) hRf), (Nat.le_trans (Nat.le_of_ble_eq_true rfl) hRl)⟩) ⟨PG.blind, pg_recv hK hP hb_15.1 hM22 rfl, fun U hU hW => ⟨rfl, PG.at hPc hK hDc hN hU hW⟩⟩ rfl rfl hl.1 rfl (lv_room (Nat.le_of_ble_eq_true rfl)) dX13_who_57 ⟨(Nat.le_trans (Nat.le_of_ble_eq_true rfl) hRc), (Nat.le_trans (Nat.le_of_ble_eq_true rfl) hRs)⟩) hS (fun q _ h => hFc q h) hFc (fun r_36 M_37 t H_35 locs ht hvm hw hB hz1 hk1 hS => ?_)
            have hp_38 := hw
            obtain ⟨hP1, hD1⟩ := hB
            rw [ht] at hP1
            obtain ⟨hP, hD⟩ := va_joinP (X := [(za, (b13_0 0 z1 (nI z2) (nI z3) z4 z5 z6 z7 z8 z9 (nI z10) z11 z12 z13 z14 z15 (nI z16) z17 z18 z19))]) (cx := []) (wr := [(za, (b13_0 0 z1 (nI z2) (nI z3) z4 z5 z6 z7 z8 z9 (nI z10) z11 z12 z13 z14 z15 (nI z16) z17 z18 z19))]) (rx := []) (pl := va_pl L M) (pl1 := va_pl L M) hP hD [] [0] rfl rfl (by decide) (by decide) hk1 hFc hP1 hD1
            have hP : va_P D vwCl ([(za, (b13_0 0 z1 (nI z2) (nI z3) z4 z5 z6 z7 z8 z9 (nI z10) z11 z12 z13 z14 z15 (nI z16) z17 z18 z19))] ++ va_pl L M) H_35 := hP
            have hD : va_D A ([(za, (b13_0 0 z1 (nI z2) (nI z3) z4 z5 z6 z7 z8 z9 (nI z10) z11 z12 z13 z14 z15 (nI z16) z17 z18 z19))] ++ va_pl L M) := hD
            rcases hp_38 with rfl | rfl
            · have hz := rfl (a := 0)
              refine lv_if_eq (tgt := 67) hx hb dX13_who_60 (by decide) (fun c_39 => absurd c_39 (by decide)) (fun _ => ?_)
              refine lv_iload hx hb dX13_who_63 (lv_at hl 0 rfl) ?_
              refine lv_istore (lv' := [(5, .int (nI v6w19)), (6, .int (nI v6w19)), (4, .ref b13), (0, .ref za), (1, .int k1), (2, .int k2), (3, .int k3)]) hx hb dX13_who_65 hl (by decide) rfl (fun ls hl => ?_)
              refine lv_iinc (v := (nI (v6w19 + 1))) (lv' := [(6, .int (nI (v6w19 + 1))), (5, .int (nI v6w19)), (4, .ref b13), (0, .ref za), (1, .int k1), (2, .int k2), (3, .int k3)]) hx hb dX13_who_67 hl (k := 1) rfl (nI_1 v6w19) (by decide) rfl (fun ls hl => ?_)
              refine lv_goto (tgt := 30) hx hb dX13_who_70 (by decide) ?_
              exact ih_17 (nI v6w19) (v6w19 + 1) H_35 _ _ (by omega) (by omega) hW hP hD hS (lv_sub hl [0, 1, 2, 3, 4, 5, 6] rfl)
            · have hz := rfl (a := 0)
              refine lv_if_eq (tgt := 67) hx hb dX13_who_60 (by decide) (fun _ => ?_) (fun c_40 => absurd c_40 (by decide))
              refine lv_iinc (v := (nI (v6w19 + 1))) (lv' := [(6, .int (nI (v6w19 + 1))), (5, .int v5w19), (4, .ref b13), (0, .ref za), (1, .int k1), (2, .int k2), (3, .int k3)]) hx hb dX13_who_67 hl (k := 0) rfl (nI_1 v6w19) (by decide) rfl (fun ls hl => ?_)
              refine lv_goto (tgt := 30) hx hb dX13_who_70 (by decide) ?_
              exact ih_17 v5w19 (v6w19 + 1) H_35 _ _ (by omega) (by omega) hW hP hD hS (lv_sub hl [0, 1, 2, 3, 4, 5, 6] rfl)
    exact key_16 (24 - 0 + 1) (-1) 0 H_2 _ _ (by omega) (by omega) hW hP hD hS (lv_sub hl [0, 1, 2, 3, 4, 5, 6] rfl)
  · have hz := rfl (a := 0)
    refine lv_if_ne (tgt := 16) hx hb dX13_who_11 (by decide) (fun c_41 => absurd c_41 (by decide)) (fun _ => ?_)
    refine lv_iconst (v := (-1)) hx hb dX13_who_14 (by decide) ?_
    rw [hQ]
    exact W.iret (v := (-1)) hx hb hr (fun t ht hW9 => ⟨⟨(-1), (), rfl, trivial, ⟨by rw [ht]; exact hP, hD⟩⟩, hS.F ht⟩) hS.2.2 dX13_who_15
set_option maxHeartbeats 4000000 in
set_option maxRecDepth 100000 in
theorem r_X13_sum (l : Launch) (D : va_G) (cy : Nat → ClassId) (K : Kp) (L : List Nat) (M : Hp) (sz : Nat) (za : Nat) (z0 : Int32) (z1 : Nat) (z2 : Nat) (z3 : Nat) (z4 : Int32) (z5 : Int32) (z6 : Nat) (z7 : Nat) (z8 : Nat) (z9 : Nat) (z10 : Nat) (z11 : Nat) (z12 : Nat) (z13 : Nat) (z14 : Nat) (z15 : Nat) (z16 : Nat) (z17 : Nat) (z18 : Int32) (z19 : Nat) (k1 : Int32) (k2 : Int32) (k3 : Int32) (hW : WOM cy K L M) (i1 : isk K L z1 23 8) (b2 : z2 ≤ 8) (b3 : z3 ≤ 40) (i6 : isk K L z6 47 40) (i7 : isk K L z7 48 40) (i8 : isk K L z8 49 8) (i9 : isk K L z9 50 8) (b10 : z10 ≤ 8) (i11 : isk K L z11 32 24) (i12 : isk K L z12 14 24) (i13 : isk K L z13 97 24) (i14 : isk K L z14 98 24) (i15 : isk K L z15 99 24) (b16 : z16 ≤ 24) (i17 : isk K L z17 14 24) (i19 : isk K L z19 15 25) : Met l yX13_sum (wsM yX13_sum cX13_sum 6 (some .long)) ({ frames := 1, cells := 0, slots := 0, locals := 24 }) (va_Pc [.ref za, .int k1, .int k2, .int k3] (PG D cy [(za, (b13_0 z0 z1 (nI z2) (nI z3) z4 z5 z6 z7 z8 z9 (nI z10) z11 z12 z13 z14 z15 (nI z16) z17 z18 z19))] L M sz)) (va_Ql (fun (r : Int64) (_ : Unit) => True) (fun _ t => PQ D [(za, (b13_0 0 z1 (nI z2) (nI z3) z4 z5 z6 z7 z8 z9 (nI z10) z11 z12 z13 z14 z15 (nI z16) z17 z18 z19))] L M (va_A ([(za, (b13_0 z0 z1 (nI z2) (nI z3) z4 z5 z6 z7 z8 z9 (nI z10) z11 z12 z13 z14 z15 (nI z16) z17 z18 z19))] ++ va_pl L M) sz) t) (va_A ([(za, (b13_0 z0 z1 (nI z2) (nI z3) z4 z5 z6 z7 z8 z9 (nI z10) z11 z12 z13 z14 z15 (nI z16) z17 z18 z19))] ++ va_pl L M) sz)) 0 0 (va_A ([(za, (b13_0 z0 z1 (nI z2) (nI z3) z4 z5 z6 z7 z8 z9 (nI z10) z11 z12 z13 z14 z15 (nI z16) z17 z18 z19))] ++ va_pl L M) sz) := by
  refine Met.ofW (cc := cX13_sum) (maxL := 6) (ret := (some .long)) (by decide) rfl ?_
  intro p e s m args below meth c s₁ B hml hv
  obtain ⟨rfl, hsz, hP, hK, hD0, hN⟩ := hv
  have hx := B.exec
  have hb := B.bytes
  have hr := B.returns
  have hts := atoms_spec (ws := (wsM yX13_sum cX13_sum 6 (some .long))) B.pre
  have hg : ∀ w ∈ lw_good, w.before _ s = true := fun w h => hts w (List.mem_cons_of_mem _ h)
  have hown : s.vm.findClass RX13 = some m.cls := findClass_of_methodNamed B.named
  have hlocks := B.notSynchronized
  subst hsz
  have hD := hD0.self (sz := s.heap.size)
  generalize hAe : va_A ([(za, (b13_0 z0 z1 (nI z2) (nI z3) z4 z5 z6 z7 z8 z9 (nI z10) z11 z12 z13 z14 z15 (nI z16) z17 z18 z19))] ++ va_pl L M) s.heap.size = A at hD ⊢
  have hA : ∀ q : Nat, s.heap.size ≤ q → A q := fun q h => by rw [← hAe]; exact Or.inr h
  have hS : va_S A s.heap s.heap [] := va_S.rf
  have hl := lv_entry ([.ref za, .int k1, .int k2, .int k3]) (n := 6) (Nat.le_of_ble_eq_true rfl)
  rw [lg_entry_eq]
  generalize (lg_sl ([.ref za, .int k1, .int k2, .int k3]) ++ List.replicate (6 - (lg_sl ([.ref za, .int k1, .int k2, .int k3])).length) Slot.unset).toArray = ls at hl ⊢
  refine W.nameQ (fun Q hQ => ?_)
  refine W.nameR (fun R hR => ?_)
  have hRf : 1 ≤ R.frames := by rw [hR]; exact Nat.le_of_ble_eq_true rfl
  have hRl : 24 ≤ R.locals := by rw [hR]; exact Nat.le_of_ble_eq_true rfl
  have hRc : 0 ≤ R.cells := by rw [hR]; exact Nat.le_of_ble_eq_true rfl
  have hRs : 0 ≤ R.slots := by rw [hR]; exact Nat.le_of_ble_eq_true rfl
  have hl : lv_has ls 6 [(0, .ref za), (1, .int k1), (2, .int k2), (3, .int k3)] := hl
  refine lv_aload_n hx hb dX13_sum_0 rfl (lv_at hl 0 rfl) ?_
  refine lv_iconst (v := 0) hx hb dX13_sum_1 (by decide) ?_
  refine va_put (D := D) (ci := 13) (v := .int 0) (ty := .int) (C := RX13) (T := TX13) (N := 20) hx hb hg inG13 tyX13 tyX13_ok nmX13 hown hK hP hD hS 0 rfl rfl 0 (by decide) (hg _ wd_720) (fun _ h9 => h9) rfl (by decide +kernel) rfl rfl (Nat.le_of_ble_eq_true rfl) dX13_sum_2 (fun H_1 locs hP hD hS => ?_)
  have hP : va_P D vwCl ([(za, (b13_0 0 z1 (nI z2) (nI z3) z4 z5 z6 z7 z8 z9 (nI z10) z11 z12 z13 z14 z15 (nI z16) z17 z18 z19))] ++ va_pl L M) H_1 := hP
  have hD : va_D A ([(za, (b13_0 0 z1 (nI z2) (nI z3) z4 z5 z6 z7 z8 z9 (nI z10) z11 z12 z13 z14 z15 (nI z16) z17 z18 z19))] ++ va_pl L M) := hD
  refine lv_aload_n hx hb dX13_sum_5 rfl (lv_at hl 0 rfl) ?_
  refine lv_iload_n hx hb dX13_sum_6 rfl (lv_at hl 1 rfl) ?_
  have hPc : va_P D vwCl ([(za, (b13_0 0 z1 (nI z2) (nI z3) z4 z5 z6 z7 z8 z9 (nI z10) z11 z12 z13 z14 z15 (nI z16) z17 z18 z19))] ++ va_pl L M) H_1 := hP
  have hDc : va_D A ([(za, (b13_0 0 z1 (nI z2) (nI z3) z4 z5 z6 z7 z8 z9 (nI z10) z11 z12 z13 z14 z15 (nI z16) z17 z18 z19))] ++ va_pl L M) := hD
  have hFc : ∀ q, va_A ([(za, (b13_0 0 z1 (nI z2) (nI z3) z4 z5 z6 z7 z8 z9 (nI z10) z11 z12 z13 z14 z15 (nI z16) z17 z18 z19))] ++ va_pl L M) H_1.size q → A q := pg_free hDc hS hA
  refine va_calli (va_runV (As := [.int k1]) (rest := []) ⟨hx, hb, hml, hown, hg⟩ (r_X13_isHouse l D cy K L M H_1.size za 0 z1 z2 z3 z4 z5 z6 z7 z8 z9 z10 z11 z12 z13 z14 z15 z16 z17 z18 z19 k1  hW i1 b2 b3 i6 i7 i8 i9 b10 i11 i12 i13 i14 i15 b16 i17 i19) (cwV 1 hg (gV wd_714 wd_715 wd_716 wd_717 wd_718) rfl rfl rfl (by decide +kernel) ⟨(Nat.le_trans (Nat.le_of_ble_eq_true rfl) hRf), (Nat.le_trans (Nat.le_of_ble_eq_true rfl) hRl)⟩) ⟨PG.blind, va_recv hK hP (ci := 13) (q0 := 0) rfl rfl, fun U hU hW => ⟨rfl, PG.at hPc hK hDc hN hU hW⟩⟩ rfl rfl hl.1 rfl (lv_room (Nat.le_of_ble_eq_true rfl)) dX13_sum_7 ⟨(Nat.le_trans (Nat.le_of_ble_eq_true rfl) hRc), (Nat.le_trans (Nat.le_of_ble_eq_true rfl) hRs)⟩) hS (fun q _ h => hFc q h) hFc (fun r_3 M_4 t H_2 locs ht hvm hw hB hz1 hk1 hS => ?_)
  have hp_5 := hw
  obtain ⟨hP1, hD1⟩ := hB
  rw [ht] at hP1
  have hP : va_P D vwCl ([(za, (b13_0 0 z1 (nI z2) (nI z3) z4 z5 z6 z7 z8 z9 (nI z10) z11 z12 z13 z14 z15 (nI z16) z17 z18 z19))] ++ va_pl L M) H_2 := hP1
  have hD : va_D A ([(za, (b13_0 0 z1 (nI z2) (nI z3) z4 z5 z6 z7 z8 z9 (nI z10) z11 z12 z13 z14 z15 (nI z16) z17 z18 z19))] ++ va_pl L M) := hD1.mono hFc
  rcases hp_5 with ⟨rfl, c_6, c_7⟩ | rfl
  · have hz := rfl (a := 0)
    refine lv_if_ne (tgt := 15) hx hb dX13_sum_10 (by decide) (fun _ => ?_) (fun c_8 => absurd c_8 (by decide))
    refine lv_aload_n hx hb dX13_sum_15 rfl (lv_at hl 0 rfl) ?_
    refine va_get (D := D) (ci := 13) (v := .ref z1) (C := RX13) (T := TX13) (N := 20) hx hb hg inG13 hown hK hP 0 rfl rfl 1 (by decide) (hg _ wd_739) (fun _ h9 => h9) rfl dX13_sum_16 ?_
    refine lv_iload_n hx hb dX13_sum_19 rfl (lv_at hl 1 rfl) ?_
    obtain ⟨f9, hM9, hf9⟩ := hW.open_23 i1
    have hi_10 : vp_in k1 8 := (inbW (a := z2) (by omega) (inb k1 z2 (by omega) c_6 c_7))
    refine pg_aldq hx hb hK hP i1.1 9 hM9 rfl hi_10 dX13_sum_20 ?_
    obtain ⟨b11, eb_12, hb_13⟩ := hf9 _ (vp_lt hi_10)
    rw [eb_12]
    refine lv_astore (lv' := [(4, .ref b11), (0, .ref za), (1, .int k1), (2, .int k2), (3, .int k3)]) hx hb dX13_sum_21 hl (by decide) rfl (fun ls hl => ?_)
    refine lv_iload_n hx hb dX13_sum_23 rfl (lv_at hl 4 rfl) ?_
    refine lv_if_lt (tgt := 38) hx hb dX13_sum_24 (by decide) (fun c_14 => ?_) (fun c_14 => ?_)
    · have hz := rfl (a := 0)
      refine lv_iconst (v := 0) hx hb dX13_sum_38 (by decide) ?_
      refine lv_istore (lv' := [(5, .int 0), (4, .ref b11), (0, .ref za), (1, .int k1), (2, .int k2), (3, .int k3)]) hx hb dX13_sum_39 hl (by decide) rfl (fun ls hl => ?_)
      refine lv_iload_n hx hb dX13_sum_41 rfl (lv_at hl 4 rfl) ?_
      by_cases hout : (k2 : Int32).toInt < 0 ∨ 3 < (k2 : Int32).toInt
      · refine lv_tableOut (tgt := 117) hx hb dX13_sum_42 hout (by decide) ?_
        refine lv_lconst (v := 0) hx hb dX13_sum_117 (by decide) ?_
        rw [hQ]
        exact W.lret (v := 0) hx hb hr (fun t ht hW9 => ⟨⟨0, (), rfl, trivial, ⟨by rw [ht]; exact hP, hD⟩⟩, hS.F ht⟩) hS.2.2 dX13_sum_118
      · obtain ⟨j_15, hj, hj2⟩ : ∃ j : Nat, j ≤ 3 ∧ (k2 : Int32).toInt = (j : Int) := ⟨(k2 : Int32).toInt.toNat, by omega, by omega⟩
        rcases (show j_15 = 0 ∨ j_15 = 1 ∨ j_15 = 2 ∨ j_15 = 3 by omega) with rfl | rfl | rfl | rfl
        · refine lv_tableIn (tgt := 72) hx hb dX13_sum_42 (by omega) (by omega) (by rw [hj2]; rfl) (by decide) ?_
          refine lv_aload hx hb dX13_sum_72 (lv_at hl 1 rfl) ?_
          obtain ⟨fs16, hM16, hn16, hl16⟩ := hW.open_12 hb_13
          obtain ⟨v17, hv17⟩ : ∃ v : Int64, fs16[7]? = some (.long v : Value) := hl16 7 (by decide)
          refine pg_getN (D := D) (ci := 12) (v := .long v17) (C := RX12) (T := TX12) (N := 51) hx hb hg inG12 hown hK hP hb_13.1 hM16 rfl 7 (by decide) (hN.use (Cond.fieldLinkNest RX13 179 RX12 "loose" "J" RX13) 16 rfl rfl) (fun _ h9 => h9) hv17 dX13_sum_74 ?_
          rw [hQ]
          exact W.lret (v := v17) hx hb hr (fun t ht hW9 => ⟨⟨v17, (), rfl, trivial, ⟨by rw [ht]; exact hP, hD⟩⟩, hS.F ht⟩) hS.2.2 dX13_sum_77
        · refine lv_tableIn (tgt := 78) hx hb dX13_sum_42 (by omega) (by omega) (by rw [hj2]; rfl) (by decide) ?_
          refine lv_iload hx hb dX13_sum_78 (lv_at hl 0 rfl) ?_
          refine lv_if_eq (tgt := 92) hx hb dX13_sum_80 (by decide) (fun _ => ?_) (fun c_18 => absurd c_18 (by decide))
          refine lv_lconst (v := 0) hx hb dX13_sum_92 (by decide) ?_
          rw [hQ]
          exact W.lret (v := 0) hx hb hr (fun t ht hW9 => ⟨⟨0, (), rfl, trivial, ⟨by rw [ht]; exact hP, hD⟩⟩, hS.F ht⟩) hS.2.2 dX13_sum_93
        · refine lv_tableIn (tgt := 94) hx hb dX13_sum_42 (by omega) (by omega) (by rw [hj2]; rfl) (by decide) ?_
          refine lv_iload hx hb dX13_sum_94 (lv_at hl 0 rfl) ?_
          refine lv_if_eq (tgt := 109) hx hb dX13_sum_96 (by decide) (fun _ => ?_) (fun c_19 => absurd c_19 (by decide))
          refine lv_lconst (v := 0) hx hb dX13_sum_109 (by decide) ?_
          rw [hQ]
          exact W.lret (v := 0) hx hb hr (fun t ht hW9 => ⟨⟨0, (), rfl, trivial, ⟨by rw [ht]; exact hP, hD⟩⟩, hS.F ht⟩) hS.2.2 dX13_sum_110
        · refine lv_tableIn (tgt := 111) hx hb dX13_sum_42 (by omega) (by omega) (by rw [hj2]; rfl) (by decide) ?_
          refine lv_aload hx hb dX13_sum_111 (lv_at hl 1 rfl) ?_
          obtain ⟨fs20, hM20, hn20, hl20⟩ := hW.open_12 hb_13
          obtain ⟨v21, hv21⟩ : ∃ v : Int64, fs20[8]? = some (.long v : Value) := hl20 8 (by decide)
          refine pg_getN (D := D) (ci := 12) (v := .long v21) (C := RX12) (T := TX12) (N := 51) hx hb hg inG12 hown hK hP hb_13.1 hM20 rfl 8 (by decide) (hN.use (Cond.fieldLinkNest RX13 364 RX12 "nobody" "J" RX13) 17 rfl rfl) (fun _ h9 => h9) hv21 dX13_sum_113 ?_
          rw [hQ]
          exact W.lret (v := v21) hx hb hr (fun t ht hW9 => ⟨⟨v21, (), rfl, trivial, ⟨by rw [ht]; exact hP, hD⟩⟩, hS.F ht⟩) hS.2.2 dX13_sum_116
    · have hz := rfl (a := 0)
      refine lv_iload_n hx hb dX13_sum_27 rfl (lv_at hl 4 rfl) ?_
      refine lv_sipush (v := 1000) hx hb dX13_sum_28 (by decide) ?_
      refine lv_icmp_ge (tgt := 38) hx hb dX13_sum_31 (by decide) (fun c_22 => ?_) (fun c_22 => ?_)
      · have hz := rfl (a := 0)
        refine lv_iconst (v := 0) hx hb dX13_sum_38 (by decide) ?_
        refine lv_istore (lv' := [(5, .int 0), (4, .ref b11), (0, .ref za), (1, .int k1), (2, .int k2), (3, .int k3)]) hx hb dX13_sum_39 hl (by decide) rfl (fun ls hl => ?_)
        refine lv_iload_n hx hb dX13_sum_41 rfl (lv_at hl 4 rfl) ?_
        by_cases hout : (k2 : Int32).toInt < 0 ∨ 3 < (k2 : Int32).toInt
        · refine lv_tableOut (tgt := 117) hx hb dX13_sum_42 hout (by decide) ?_
          refine lv_lconst (v := 0) hx hb dX13_sum_117 (by decide) ?_
          rw [hQ]
          exact W.lret (v := 0) hx hb hr (fun t ht hW9 => ⟨⟨0, (), rfl, trivial, ⟨by rw [ht]; exact hP, hD⟩⟩, hS.F ht⟩) hS.2.2 dX13_sum_118
        · obtain ⟨j_23, hj, hj2⟩ : ∃ j : Nat, j ≤ 3 ∧ (k2 : Int32).toInt = (j : Int) := ⟨(k2 : Int32).toInt.toNat, by omega, by omega⟩
          rcases (show j_23 = 0 ∨ j_23 = 1 ∨ j_23 = 2 ∨ j_23 = 3 by omega) with rfl | rfl | rfl | rfl
          · refine lv_tableIn (tgt := 72) hx hb dX13_sum_42 (by omega) (by omega) (by rw [hj2]; rfl) (by decide) ?_
            refine lv_aload hx hb dX13_sum_72 (lv_at hl 1 rfl) ?_
            obtain ⟨fs24, hM24, hn24, hl24⟩ := hW.open_12 hb_13
            obtain ⟨v25, hv25⟩ : ∃ v : Int64, fs24[7]? = some (.long v : Value) := hl24 7 (by decide)
            refine pg_getN (D := D) (ci := 12) (v := .long v25) (C := RX12) (T := TX12) (N := 51) hx hb hg inG12 hown hK hP hb_13.1 hM24 rfl 7 (by decide) (hN.use (Cond.fieldLinkNest RX13 179 RX12 "loose" "J" RX13) 16 rfl rfl) (fun _ h9 => h9) hv25 dX13_sum_74 ?_
            rw [hQ]
            exact W.lret (v := v25) hx hb hr (fun t ht hW9 => ⟨⟨v25, (), rfl, trivial, ⟨by rw [ht]; exact hP, hD⟩⟩, hS.F ht⟩) hS.2.2 dX13_sum_77
          · refine lv_tableIn (tgt := 78) hx hb dX13_sum_42 (by omega) (by omega) (by rw [hj2]; rfl) (by decide) ?_
            refine lv_iload hx hb dX13_sum_78 (lv_at hl 0 rfl) ?_
            refine lv_if_eq (tgt := 92) hx hb dX13_sum_80 (by decide) (fun _ => ?_) (fun c_26 => absurd c_26 (by decide))
            refine lv_lconst (v := 0) hx hb dX13_sum_92 (by decide) ?_
            rw [hQ]
            exact W.lret (v := 0) hx hb hr (fun t ht hW9 => ⟨⟨0, (), rfl, trivial, ⟨by rw [ht]; exact hP, hD⟩⟩, hS.F ht⟩) hS.2.2 dX13_sum_93
          · refine lv_tableIn (tgt := 94) hx hb dX13_sum_42 (by omega) (by omega) (by rw [hj2]; rfl) (by decide) ?_
            refine lv_iload hx hb dX13_sum_94 (lv_at hl 0 rfl) ?_
            refine lv_if_eq (tgt := 109) hx hb dX13_sum_96 (by decide) (fun _ => ?_) (fun c_27 => absurd c_27 (by decide))
            refine lv_lconst (v := 0) hx hb dX13_sum_109 (by decide) ?_
            rw [hQ]
            exact W.lret (v := 0) hx hb hr (fun t ht hW9 => ⟨⟨0, (), rfl, trivial, ⟨by rw [ht]; exact hP, hD⟩⟩, hS.F ht⟩) hS.2.2 dX13_sum_110
          · refine lv_tableIn (tgt := 111) hx hb dX13_sum_42 (by omega) (by omega) (by rw [hj2]; rfl) (by decide) ?_
            refine lv_aload hx hb dX13_sum_111 (lv_at hl 1 rfl) ?_
            obtain ⟨fs28, hM28, hn28, hl28⟩ := hW.open_12 hb_13
            obtain ⟨v29, hv29⟩ : ∃ v : Int64, fs28[8]? = some (.long v : Value) := hl28 8 (by decide)
            refine pg_getN (D := D) (ci := 12) (v := .long v29) (C := RX12) (T := TX12) (N := 51) hx hb hg inG12 hown hK hP hb_13.1 hM28 rfl 8 (by decide) (hN.use (Cond.fieldLinkNest RX13 364 RX12 "nobody" "J" RX13) 17 rfl rfl) (fun _ h9 => h9) hv29 dX13_sum_113 ?_
            rw [hQ]
            exact W.lret (v := v29) hx hb hr (fun t ht hW9 => ⟨⟨v29, (), rfl, trivial, ⟨by rw [ht]; exact hP, hD⟩⟩, hS.F ht⟩) hS.2.2 dX13_sum_116
      · have hz := rfl (a := 0)
        refine lv_iconst (v := 1) hx hb dX13_sum_34 (by decide) ?_
        refine lv_goto (tgt := 39) hx hb dX13_sum_35 (by decide) ?_
        refine lv_istore (lv' := [(5, .int 1), (4, .ref b11), (0, .ref za), (1, .int k1), (2, .int k2), (3, .int k3)]) hx hb dX13_sum_39 hl (by decide) rfl (fun ls hl => ?_)
        refine lv_iload_n hx hb dX13_sum_41 rfl (lv_at hl 4 rfl) ?_
        by_cases hout : (k2 : Int32).toInt < 0 ∨ 3 < (k2 : Int32).toInt
        · refine lv_tableOut (tgt := 117) hx hb dX13_sum_42 hout (by decide) ?_
          refine lv_lconst (v := 0) hx hb dX13_sum_117 (by decide) ?_
          rw [hQ]
          exact W.lret (v := 0) hx hb hr (fun t ht hW9 => ⟨⟨0, (), rfl, trivial, ⟨by rw [ht]; exact hP, hD⟩⟩, hS.F ht⟩) hS.2.2 dX13_sum_118
        · obtain ⟨j_30, hj, hj2⟩ : ∃ j : Nat, j ≤ 3 ∧ (k2 : Int32).toInt = (j : Int) := ⟨(k2 : Int32).toInt.toNat, by omega, by omega⟩
          rcases (show j_30 = 0 ∨ j_30 = 1 ∨ j_30 = 2 ∨ j_30 = 3 by omega) with rfl | rfl | rfl | rfl
          · refine lv_tableIn (tgt := 72) hx hb dX13_sum_42 (by omega) (by omega) (by rw [hj2]; rfl) (by decide) ?_
            refine lv_aload hx hb dX13_sum_72 (lv_at hl 1 rfl) ?_
            obtain ⟨fs31, hM31, hn31, hl31⟩ := hW.open_12 hb_13
            obtain ⟨v32, hv32⟩ : ∃ v : Int64, fs31[7]? = some (.long v : Value) := hl31 7 (by decide)
            refine pg_getN (D := D) (ci := 12) (v := .long v32) (C := RX12) (T := TX12) (N := 51) hx hb hg inG12 hown hK hP hb_13.1 hM31 rfl 7 (by decide) (hN.use (Cond.fieldLinkNest RX13 179 RX12 "loose" "J" RX13) 16 rfl rfl) (fun _ h9 => h9) hv32 dX13_sum_74 ?_
            rw [hQ]
            exact W.lret (v := v32) hx hb hr (fun t ht hW9 => ⟨⟨v32, (), rfl, trivial, ⟨by rw [ht]; exact hP, hD⟩⟩, hS.F ht⟩) hS.2.2 dX13_sum_77
          · refine lv_tableIn (tgt := 78) hx hb dX13_sum_42 (by omega) (by omega) (by rw [hj2]; rfl) (by decide) ?_
            refine lv_iload hx hb dX13_sum_78 (lv_at hl 0 rfl) ?_
            refine lv_if_eq (tgt := 92) hx hb dX13_sum_80 (by decide) (fun c_33 => absurd c_33 (by decide)) (fun _ => ?_)
            refine lv_aload hx hb dX13_sum_83 (lv_at hl 1 rfl) ?_
            refine lv_iload_n hx hb dX13_sum_85 rfl (lv_at hl 5 rfl) ?_
            obtain ⟨j_34, hj_35, rfl⟩ := i32nat 1000 (by decide) c_14 c_22
            obtain ⟨fs36, hM36, hn36, hl36⟩ := hW.open_12 hb_13
            have hPc : va_P D vwCl ([] ++ va_pl L M) H_2 := hP.part (cx := []) [] rfl
            have hDc : va_D A ([] ++ va_pl L M) := hD.part (cx := []) [] (by decide) rfl
            have hFc : ∀ q, va_A ([] ++ va_pl L M) H_2.size q → A q := pg_free hDc hS hA
            refine va_calll (va_runV (As := [.int (nI j_34)]) (rest := []) ⟨hx, hb, hml, hown, hg⟩ (r_X12_entries l D cy K L M H_2.size b11 j_34  hW hb_13 (by omega)) (cwV 1 hg (gV wd_756 wd_757 wd_758 wd_737 wd_759) rfl rfl rfl (by decide +kernel) ⟨(Nat.le_trans (Nat.le_of_ble_eq_true rfl) hRf), (Nat.le_trans (Nat.le_of_ble_eq_true rfl) hRl)⟩) ⟨PG.blind, pg_recv hK hP hb_13.1 hM36 rfl, fun U hU hW => ⟨rfl, PG.at hPc hK hDc hN hU hW⟩⟩ rfl rfl hl.1 rfl (lv_room (Nat.le_of_ble_eq_true rfl)) dX13_sum_86 ⟨(Nat.le_trans (Nat.le_of_ble_eq_true rfl) hRc), (Nat.le_trans (Nat.le_of_ble_eq_true rfl) hRs)⟩) hS (fun q _ h => hFc q h) hFc (fun r_38 M_39 t H_37 locs ht hvm hw hB hz1 hk1 hS => ?_)
            have hp_40 := hw
            obtain ⟨hP1, hD1⟩ := hB
            rw [ht] at hP1
            obtain ⟨hP, hD⟩ := va_joinP (X := [(za, (b13_0 0 z1 (nI z2) (nI z3) z4 z5 z6 z7 z8 z9 (nI z10) z11 z12 z13 z14 z15 (nI z16) z17 z18 z19))]) (cx := []) (wr := [(za, (b13_0 0 z1 (nI z2) (nI z3) z4 z5 z6 z7 z8 z9 (nI z10) z11 z12 z13 z14 z15 (nI z16) z17 z18 z19))]) (rx := []) (pl := va_pl L M) (pl1 := va_pl L M) hP hD [] [0] rfl rfl (by decide) (by decide) hk1 hFc hP1 hD1
            have hP : va_P D vwCl ([(za, (b13_0 0 z1 (nI z2) (nI z3) z4 z5 z6 z7 z8 z9 (nI z10) z11 z12 z13 z14 z15 (nI z16) z17 z18 z19))] ++ va_pl L M) H_37 := hP
            have hD : va_D A ([(za, (b13_0 0 z1 (nI z2) (nI z3) z4 z5 z6 z7 z8 z9 (nI z10) z11 z12 z13 z14 z15 (nI z16) z17 z18 z19))] ++ va_pl L M) := hD
            refine lv_goto (tgt := 93) hx hb dX13_sum_89 (by decide) ?_
            rw [hQ]
            exact W.lret (v := r_38) hx hb hr (fun t ht hW9 => ⟨⟨r_38, (), rfl, trivial, ⟨by rw [ht]; exact hP, hD⟩⟩, hS.F ht⟩) hS.2.2 dX13_sum_93
          · refine lv_tableIn (tgt := 94) hx hb dX13_sum_42 (by omega) (by omega) (by rw [hj2]; rfl) (by decide) ?_
            refine lv_iload hx hb dX13_sum_94 (lv_at hl 0 rfl) ?_
            refine lv_if_eq (tgt := 109) hx hb dX13_sum_96 (by decide) (fun c_41 => absurd c_41 (by decide)) (fun _ => ?_)
            refine lv_aload hx hb dX13_sum_99 (lv_at hl 1 rfl) ?_
            obtain ⟨fs42, hM42, hn42, hl42⟩ := hW.open_12 hb_13
            obtain ⟨v43, hv43, hc43⟩ : ∃ v : Nat, fs42[6]? = some (.ref v : Value) ∧ isk K L v 86 1000 := hl42 6 (by decide)
            refine pg_getN (D := D) (ci := 12) (v := .ref v43) (C := RX12) (T := TX12) (N := 51) hx hb hg inG12 hown hK hP hb_13.1 hM42 rfl 6 (by decide) (hN.use (Cond.fieldLinkNest RX13 328 RX12 "income" "[J" RX13) 15 rfl rfl) (fun _ h9 => h9) hv43 dX13_sum_101 ?_
            refine lv_iload_n hx hb dX13_sum_104 rfl (lv_at hl 5 rfl) ?_
            obtain ⟨f44, hM44⟩ := hW.open_86 hc43
            refine pg_lald hx hb hK hP hc43.1 1 hM44 rfl (inb k3 1000 (by omega) c_14 c_22) dX13_sum_105 ?_
            refine lv_topl (fun f_45 ef_45 => ?_)
            refine lv_goto (tgt := 110) hx hb dX13_sum_106 (by decide) ?_
            rw [hQ]
            exact W.lret (v := f_45) hx hb hr (fun t ht hW9 => ⟨⟨f_45, (), rfl, trivial, ⟨by rw [ht]; exact hP, hD⟩⟩, hS.F ht⟩) hS.2.2 dX13_sum_110
          · refine lv_tableIn (tgt := 111) hx hb dX13_sum_42 (by omega) (by omega) (by rw [hj2]; rfl) (by decide) ?_
            refine lv_aload hx hb dX13_sum_111 (lv_at hl 1 rfl) ?_
            obtain ⟨fs46, hM46, hn46, hl46⟩ := hW.open_12 hb_13
            obtain ⟨v47, hv47⟩ : ∃ v : Int64, fs46[8]? = some (.long v : Value) := hl46 8 (by decide)
            refine pg_getN (D := D) (ci := 12) (v := .long v47) (C := RX12) (T := TX12) (N := 51) hx hb hg inG12 hown hK hP hb_13.1 hM46 rfl 8 (by decide) (hN.use (Cond.fieldLinkNest RX13 364 RX12 "nobody" "J" RX13) 17 rfl rfl) (fun _ h9 => h9) hv47 dX13_sum_113 ?_
            rw [hQ]
            exact W.lret (v := v47) hx hb hr (fun t ht hW9 => ⟨⟨v47, (), rfl, trivial, ⟨by rw [ht]; exact hP, hD⟩⟩, hS.F ht⟩) hS.2.2 dX13_sum_116
  · have hz := rfl (a := 0)
    refine lv_if_ne (tgt := 15) hx hb dX13_sum_10 (by decide) (fun c_48 => absurd c_48 (by decide)) (fun _ => ?_)
    refine lv_lconst (v := 0) hx hb dX13_sum_13 (by decide) ?_
    rw [hQ]
    exact W.lret (v := 0) hx hb hr (fun t ht hW9 => ⟨⟨0, (), rfl, trivial, ⟨by rw [ht]; exact hP, hD⟩⟩, hS.F ht⟩) hS.2.2 dX13_sum_14
