theorem dX13_close_0 : decode cX13_close 0 = .ok (.aload_n 0, 1) := by decide +kernel
theorem dX13_close_1 : decode cX13_close 1 = .ok (.iconst 0, 1) := by decide +kernel
theorem dX13_close_2 : decode cX13_close 2 = .ok (.putfield 55, 3) := by decide +kernel
theorem dX13_close_5 : decode cX13_close 5 = .ok (.aload_n 0, 1) := by decide +kernel
theorem dX13_close_6 : decode cX13_close 6 = .ok (.iload_n 1, 1) := by decide +kernel
theorem dX13_close_7 : decode cX13_close 7 = .ok (.invokevirtual 64, 3) := by decide +kernel
theorem dX13_close_10 : decode cX13_close 10 = .ok (.ifCond .ne 9, 3) := by decide +kernel
theorem dX13_close_13 : decode cX13_close 13 = .ok (.aload_n 0, 1) := by decide +kernel
theorem dX13_close_14 : decode cX13_close 14 = .ok (.iconst 1, 1) := by decide +kernel
theorem dX13_close_15 : decode cX13_close 15 = .ok (.invokevirtual 73, 3) := by decide +kernel
theorem dX13_close_18 : decode cX13_close 18 = .ok (.ireturn, 1) := by decide +kernel
theorem dX13_close_19 : decode cX13_close 19 = .ok (.aload_n 0, 1) := by decide +kernel
theorem dX13_close_20 : decode cX13_close 20 = .ok (.getfield 12, 3) := by decide +kernel
theorem dX13_close_23 : decode cX13_close 23 = .ok (.iload_n 1, 1) := by decide +kernel
theorem dX13_close_24 : decode cX13_close 24 = .ok (.aaload, 1) := by decide +kernel
theorem dX13_close_25 : decode cX13_close 25 = .ok (.astore_n 2, 1) := by decide +kernel
theorem dX13_close_26 : decode cX13_close 26 = .ok (.aload_n 2, 1) := by decide +kernel
theorem dX13_close_27 : decode cX13_close 27 = .ok (.getfield 244, 3) := by decide +kernel
theorem dX13_close_30 : decode cX13_close 30 = .ok (.aload_n 2, 1) := by decide +kernel
theorem dX13_close_31 : decode cX13_close 31 = .ok (.getfield 233, 3) := by decide +kernel
theorem dX13_close_34 : decode cX13_close 34 = .ok (.if_icmp .ne 10, 3) := by decide +kernel
theorem dX13_close_37 : decode cX13_close 37 = .ok (.aload_n 0, 1) := by decide +kernel
theorem dX13_close_38 : decode cX13_close 38 = .ok (.bipush 6, 2) := by decide +kernel
theorem dX13_close_40 : decode cX13_close 40 = .ok (.invokevirtual 73, 3) := by decide +kernel
theorem dX13_close_43 : decode cX13_close 43 = .ok (.ireturn, 1) := by decide +kernel
theorem dX13_close_44 : decode cX13_close 44 = .ok (.aload_n 2, 1) := by decide +kernel
theorem dX13_close_45 : decode cX13_close 45 = .ok (.getfield 142, 3) := by decide +kernel
theorem dX13_close_48 : decode cX13_close 48 = .ok (.ifCond .ne 9, 3) := by decide +kernel
theorem dX13_close_51 : decode cX13_close 51 = .ok (.aload_n 0, 1) := by decide +kernel
theorem dX13_close_52 : decode cX13_close 52 = .ok (.iconst 1, 1) := by decide +kernel
theorem dX13_close_53 : decode cX13_close 53 = .ok (.invokevirtual 73, 3) := by decide +kernel
theorem dX13_close_56 : decode cX13_close 56 = .ok (.ireturn, 1) := by decide +kernel
theorem dX13_close_57 : decode cX13_close 57 = .ok (.aload_n 2, 1) := by decide +kernel
theorem dX13_close_58 : decode cX13_close 58 = .ok (.getfield 80, 3) := by decide +kernel
theorem dX13_close_61 : decode cX13_close 61 = .ok (.iconst 1, 1) := by decide +kernel
theorem dX13_close_62 : decode cX13_close 62 = .ok (.iadd, 1) := by decide +kernel
theorem dX13_close_63 : decode cX13_close 63 = .ok (.istore_n 3, 1) := by decide +kernel
theorem dX13_close_64 : decode cX13_close 64 = .ok (.aload_n 2, 1) := by decide +kernel
theorem dX13_close_65 : decode cX13_close 65 = .ok (.getfield 236, 3) := by decide +kernel
theorem dX13_close_68 : decode cX13_close 68 = .ok (.aload_n 2, 1) := by decide +kernel
theorem dX13_close_69 : decode cX13_close 69 = .ok (.getfield 244, 3) := by decide +kernel
theorem dX13_close_72 : decode cX13_close 72 = .ok (.iaload, 1) := by decide +kernel
theorem dX13_close_73 : decode cX13_close 73 = .ok (.istore 4, 2) := by decide +kernel
theorem dX13_close_75 : decode cX13_close 75 = .ok (.iload_n 3, 1) := by decide +kernel
theorem dX13_close_76 : decode cX13_close 76 = .ok (.istore 5, 2) := by decide +kernel
theorem dX13_close_78 : decode cX13_close 78 = .ok (.iload 5, 2) := by decide +kernel
theorem dX13_close_80 : decode cX13_close 80 = .ok (.iload 4, 2) := by decide +kernel
theorem dX13_close_82 : decode cX13_close 82 = .ok (.if_icmp .gt 26, 3) := by decide +kernel
theorem dX13_close_85 : decode cX13_close 85 = .ok (.aload_n 2, 1) := by decide +kernel
theorem dX13_close_86 : decode cX13_close 86 = .ok (.iload 5, 2) := by decide +kernel
theorem dX13_close_88 : decode cX13_close 88 = .ok (.invokevirtual 247, 3) := by decide +kernel
theorem dX13_close_91 : decode cX13_close 91 = .ok (.ifCond .eq 11, 3) := by decide +kernel
theorem dX13_close_94 : decode cX13_close 94 = .ok (.aload_n 0, 1) := by decide +kernel
theorem dX13_close_95 : decode cX13_close 95 = .ok (.iconst 5, 1) := by decide +kernel
theorem dX13_close_96 : decode cX13_close 96 = .ok (.iload 5, 2) := by decide +kernel
theorem dX13_close_98 : decode cX13_close 98 = .ok (.invokevirtual 250, 3) := by decide +kernel
theorem dX13_close_101 : decode cX13_close 101 = .ok (.ireturn, 1) := by decide +kernel
theorem dX13_close_102 : decode cX13_close 102 = .ok (.iinc 5 1, 3) := by decide +kernel
theorem dX13_close_105 : decode cX13_close 105 = .ok (.goto (-27), 3) := by decide +kernel
theorem dX13_close_108 : decode cX13_close 108 = .ok (.aload_n 0, 1) := by decide +kernel
theorem dX13_close_109 : decode cX13_close 109 = .ok (.iload_n 1, 1) := by decide +kernel
theorem dX13_close_110 : decode cX13_close 110 = .ok (.iload 4, 2) := by decide +kernel
theorem dX13_close_112 : decode cX13_close 112 = .ok (.invokevirtual 253, 3) := by decide +kernel
theorem dX13_close_115 : decode cX13_close 115 = .ok (.istore 5, 2) := by decide +kernel
theorem dX13_close_117 : decode cX13_close 117 = .ok (.iload 5, 2) := by decide +kernel
theorem dX13_close_119 : decode cX13_close 119 = .ok (.iconst (-1), 1) := by decide +kernel
theorem dX13_close_120 : decode cX13_close 120 = .ok (.if_icmp .eq 12, 3) := by decide +kernel
theorem dX13_close_123 : decode cX13_close 123 = .ok (.aload_n 0, 1) := by decide +kernel
theorem dX13_close_124 : decode cX13_close 124 = .ok (.bipush 7, 2) := by decide +kernel
theorem dX13_close_126 : decode cX13_close 126 = .ok (.iload 5, 2) := by decide +kernel
theorem dX13_close_128 : decode cX13_close 128 = .ok (.invokevirtual 250, 3) := by decide +kernel
theorem dX13_close_131 : decode cX13_close 131 = .ok (.ireturn, 1) := by decide +kernel
theorem dX13_close_132 : decode cX13_close 132 = .ok (.aload_n 2, 1) := by decide +kernel
theorem dX13_close_133 : decode cX13_close 133 = .ok (.iconst 0, 1) := by decide +kernel
theorem dX13_close_134 : decode cX13_close 134 = .ok (.putfield 256, 3) := by decide +kernel
theorem dX13_close_137 : decode cX13_close 137 = .ok (.iconst 0, 1) := by decide +kernel
theorem dX13_close_138 : decode cX13_close 138 = .ok (.istore 6, 2) := by decide +kernel
theorem dX13_close_140 : decode cX13_close 140 = .ok (.iload 6, 2) := by decide +kernel
theorem dX13_close_142 : decode cX13_close 142 = .ok (.bipush 24, 2) := by decide +kernel
theorem dX13_close_144 : decode cX13_close 144 = .ok (.if_icmp .ge 17, 3) := by decide +kernel
theorem dX13_close_147 : decode cX13_close 147 = .ok (.aload_n 2, 1) := by decide +kernel
theorem dX13_close_148 : decode cX13_close 148 = .ok (.getfield 259, 3) := by decide +kernel
theorem dX13_close_151 : decode cX13_close 151 = .ok (.iload 6, 2) := by decide +kernel
theorem dX13_close_153 : decode cX13_close 153 = .ok (.lconst 0, 1) := by decide +kernel
theorem dX13_close_154 : decode cX13_close 154 = .ok (.lastore, 1) := by decide +kernel
theorem dX13_close_155 : decode cX13_close 155 = .ok (.iinc 6 1, 3) := by decide +kernel
theorem dX13_close_158 : decode cX13_close 158 = .ok (.goto (-18), 3) := by decide +kernel
theorem dX13_close_161 : decode cX13_close 161 = .ok (.iload_n 3, 1) := by decide +kernel
theorem dX13_close_162 : decode cX13_close 162 = .ok (.istore 6, 2) := by decide +kernel
theorem dX13_close_164 : decode cX13_close 164 = .ok (.iload 6, 2) := by decide +kernel
theorem dX13_close_166 : decode cX13_close 166 = .ok (.iload 4, 2) := by decide +kernel
theorem dX13_close_168 : decode cX13_close 168 = .ok (.if_icmp .gt 70, 3) := by decide +kernel
theorem dX13_close_171 : decode cX13_close 171 = .ok (.iload 6, 2) := by decide +kernel
theorem dX13_close_173 : decode cX13_close 173 = .ok (.iload_n 3, 1) := by decide +kernel
theorem dX13_close_174 : decode cX13_close 174 = .ok (.if_icmp .eq 12, 3) := by decide +kernel
theorem dX13_close_177 : decode cX13_close 177 = .ok (.aload_n 2, 1) := by decide +kernel
theorem dX13_close_178 : decode cX13_close 178 = .ok (.iload 6, 2) := by decide +kernel
theorem dX13_close_180 : decode cX13_close 180 = .ok (.invokestatic 262, 3) := by decide +kernel
theorem dX13_close_183 : decode cX13_close 183 = .ok (.ifCond .eq 34, 3) := by decide +kernel
theorem dX13_close_186 : decode cX13_close 186 = .ok (.aload_n 2, 1) := by decide +kernel
theorem dX13_close_187 : decode cX13_close 187 = .ok (.getfield 265, 3) := by decide +kernel
theorem dX13_close_190 : decode cX13_close 190 = .ok (.aload_n 2, 1) := by decide +kernel
theorem dX13_close_191 : decode cX13_close 191 = .ok (.getfield 256, 3) := by decide +kernel
theorem dX13_close_194 : decode cX13_close 194 = .ok (.iload 6, 2) := by decide +kernel
theorem dX13_close_196 : decode cX13_close 196 = .ok (.iastore, 1) := by decide +kernel
theorem dX13_close_197 : decode cX13_close 197 = .ok (.aload_n 2, 1) := by decide +kernel
theorem dX13_close_198 : decode cX13_close 198 = .ok (.getfield 268, 3) := by decide +kernel
theorem dX13_close_201 : decode cX13_close 201 = .ok (.aload_n 2, 1) := by decide +kernel
theorem dX13_close_202 : decode cX13_close 202 = .ok (.getfield 256, 3) := by decide +kernel
theorem dX13_close_205 : decode cX13_close 205 = .ok (.iconst 0, 1) := by decide +kernel
theorem dX13_close_206 : decode cX13_close 206 = .ok (.iastore, 1) := by decide +kernel
theorem dX13_close_207 : decode cX13_close 207 = .ok (.aload_n 2, 1) := by decide +kernel
theorem dX13_close_208 : decode cX13_close 208 = .ok (.dup, 1) := by decide +kernel
theorem dX13_close_209 : decode cX13_close 209 = .ok (.getfield 256, 3) := by decide +kernel
theorem dX13_close_212 : decode cX13_close 212 = .ok (.iconst 1, 1) := by decide +kernel
theorem dX13_close_213 : decode cX13_close 213 = .ok (.iadd, 1) := by decide +kernel
theorem dX13_close_214 : decode cX13_close 214 = .ok (.putfield 256, 3) := by decide +kernel
theorem dX13_close_217 : decode cX13_close 217 = .ok (.aload_n 2, 1) := by decide +kernel
theorem dX13_close_218 : decode cX13_close 218 = .ok (.getfield 268, 3) := by decide +kernel
theorem dX13_close_221 : decode cX13_close 221 = .ok (.aload_n 2, 1) := by decide +kernel
theorem dX13_close_222 : decode cX13_close 222 = .ok (.getfield 256, 3) := by decide +kernel
theorem dX13_close_225 : decode cX13_close 225 = .ok (.iconst 1, 1) := by decide +kernel
theorem dX13_close_226 : decode cX13_close 226 = .ok (.isub, 1) := by decide +kernel
theorem dX13_close_227 : decode cX13_close 227 = .ok (.dup2, 1) := by decide +kernel
theorem dX13_close_228 : decode cX13_close 228 = .ok (.iaload, 1) := by decide +kernel
theorem dX13_close_229 : decode cX13_close 229 = .ok (.iconst 1, 1) := by decide +kernel
theorem dX13_close_230 : decode cX13_close 230 = .ok (.iadd, 1) := by decide +kernel
theorem dX13_close_231 : decode cX13_close 231 = .ok (.iastore, 1) := by decide +kernel
theorem dX13_close_232 : decode cX13_close 232 = .ok (.iinc 6 1, 3) := by decide +kernel
theorem dX13_close_235 : decode cX13_close 235 = .ok (.goto (-71), 3) := by decide +kernel
theorem dX13_close_238 : decode cX13_close 238 = .ok (.aload_n 2, 1) := by decide +kernel
theorem dX13_close_239 : decode cX13_close 239 = .ok (.getfield 256, 3) := by decide +kernel
theorem dX13_close_242 : decode cX13_close 242 = .ok (.istore 6, 2) := by decide +kernel
theorem dX13_close_244 : decode cX13_close 244 = .ok (.aload_n 0, 1) := by decide +kernel
theorem dX13_close_245 : decode cX13_close 245 = .ok (.aload_n 2, 1) := by decide +kernel
theorem dX13_close_246 : decode cX13_close 246 = .ok (.iload 6, 2) := by decide +kernel
theorem dX13_close_248 : decode cX13_close 248 = .ok (.invokevirtual 271, 3) := by decide +kernel
theorem dX13_close_251 : decode cX13_close 251 = .ok (.iconst 0, 1) := by decide +kernel
theorem dX13_close_252 : decode cX13_close 252 = .ok (.istore 7, 2) := by decide +kernel
theorem dX13_close_254 : decode cX13_close 254 = .ok (.iload 7, 2) := by decide +kernel
theorem dX13_close_256 : decode cX13_close 256 = .ok (.iload 6, 2) := by decide +kernel
theorem dX13_close_258 : decode cX13_close 258 = .ok (.if_icmp .ge 17, 3) := by decide +kernel
theorem dX13_close_261 : decode cX13_close 261 = .ok (.aload_n 0, 1) := by decide +kernel
theorem dX13_close_262 : decode cX13_close 262 = .ok (.aload_n 2, 1) := by decide +kernel
theorem dX13_close_263 : decode cX13_close 263 = .ok (.iload 7, 2) := by decide +kernel
theorem dX13_close_265 : decode cX13_close 265 = .ok (.iload_n 3, 1) := by decide +kernel
theorem dX13_close_266 : decode cX13_close 266 = .ok (.invokevirtual 275, 3) := by decide +kernel
theorem dX13_close_269 : decode cX13_close 269 = .ok (.iinc 7 1, 3) := by decide +kernel
theorem dX13_close_272 : decode cX13_close 272 = .ok (.goto (-18), 3) := by decide +kernel
theorem dX13_close_275 : decode cX13_close 275 = .ok (.iconst 0, 1) := by decide +kernel
theorem dX13_close_276 : decode cX13_close 276 = .ok (.istore 7, 2) := by decide +kernel
theorem dX13_close_278 : decode cX13_close 278 = .ok (.iload 7, 2) := by decide +kernel
theorem dX13_close_280 : decode cX13_close 280 = .ok (.aload_n 2, 1) := by decide +kernel
theorem dX13_close_281 : decode cX13_close 281 = .ok (.getfield 279, 3) := by decide +kernel
theorem dX13_close_284 : decode cX13_close 284 = .ok (.if_icmp .ge 16, 3) := by decide +kernel
theorem dX13_close_287 : decode cX13_close 287 = .ok (.aload_n 0, 1) := by decide +kernel
theorem dX13_close_288 : decode cX13_close 288 = .ok (.aload_n 2, 1) := by decide +kernel
theorem dX13_close_289 : decode cX13_close 289 = .ok (.iload 7, 2) := by decide +kernel
theorem dX13_close_291 : decode cX13_close 291 = .ok (.invokevirtual 282, 3) := by decide +kernel
theorem dX13_close_294 : decode cX13_close 294 = .ok (.iinc 7 1, 3) := by decide +kernel
theorem dX13_close_297 : decode cX13_close 297 = .ok (.goto (-19), 3) := by decide +kernel
theorem dX13_close_300 : decode cX13_close 300 = .ok (.aload_n 2, 1) := by decide +kernel
theorem dX13_close_301 : decode cX13_close 301 = .ok (.iload_n 3, 1) := by decide +kernel
theorem dX13_close_302 : decode cX13_close 302 = .ok (.iload 4, 2) := by decide +kernel
theorem dX13_close_304 : decode cX13_close 304 = .ok (.invokestatic 285, 3) := by decide +kernel
theorem dX13_close_307 : decode cX13_close 307 = .ok (.aload_n 2, 1) := by decide +kernel
theorem dX13_close_308 : decode cX13_close 308 = .ok (.lconst 0, 1) := by decide +kernel
theorem dX13_close_309 : decode cX13_close 309 = .ok (.putfield 179, 3) := by decide +kernel
theorem dX13_close_312 : decode cX13_close 312 = .ok (.aload_n 2, 1) := by decide +kernel
theorem dX13_close_313 : decode cX13_close 313 = .ok (.iconst 0, 1) := by decide +kernel
theorem dX13_close_314 : decode cX13_close 314 = .ok (.putfield 279, 3) := by decide +kernel
theorem dX13_close_317 : decode cX13_close 317 = .ok (.aload_n 2, 1) := by decide +kernel
theorem dX13_close_318 : decode cX13_close 318 = .ok (.iconst 0, 1) := by decide +kernel
theorem dX13_close_319 : decode cX13_close 319 = .ok (.putfield 161, 3) := by decide +kernel
theorem dX13_close_322 : decode cX13_close 322 = .ok (.aload_n 2, 1) := by decide +kernel
theorem dX13_close_323 : decode cX13_close 323 = .ok (.iload 4, 2) := by decide +kernel
theorem dX13_close_325 : decode cX13_close 325 = .ok (.putfield 80, 3) := by decide +kernel
theorem dX13_close_328 : decode cX13_close 328 = .ok (.aload_n 2, 1) := by decide +kernel
theorem dX13_close_329 : decode cX13_close 329 = .ok (.dup, 1) := by decide +kernel
theorem dX13_close_330 : decode cX13_close 330 = .ok (.getfield 244, 3) := by decide +kernel
theorem dX13_close_333 : decode cX13_close 333 = .ok (.iconst 1, 1) := by decide +kernel
theorem dX13_close_334 : decode cX13_close 334 = .ok (.iadd, 1) := by decide +kernel
theorem dX13_close_335 : decode cX13_close 335 = .ok (.putfield 244, 3) := by decide +kernel
theorem dX13_close_338 : decode cX13_close 338 = .ok (.aload_n 2, 1) := by decide +kernel
theorem dX13_close_339 : decode cX13_close 339 = .ok (.iconst 1, 1) := by decide +kernel
theorem dX13_close_340 : decode cX13_close 340 = .ok (.putfield 288, 3) := by decide +kernel
theorem dX13_close_343 : decode cX13_close 343 = .ok (.aload_n 0, 1) := by decide +kernel
theorem dX13_close_344 : decode cX13_close 344 = .ok (.aload_n 2, 1) := by decide +kernel
theorem dX13_close_345 : decode cX13_close 345 = .ok (.iload 4, 2) := by decide +kernel
theorem dX13_close_347 : decode cX13_close 347 = .ok (.invokevirtual 292, 3) := by decide +kernel
theorem dX13_close_350 : decode cX13_close 350 = .ok (.aload_n 2, 1) := by decide +kernel
theorem dX13_close_351 : decode cX13_close 351 = .ok (.iload 4, 2) := by decide +kernel
theorem dX13_close_353 : decode cX13_close 353 = .ok (.invokestatic 295, 3) := by decide +kernel
theorem dX13_close_356 : decode cX13_close 356 = .ok (.aload_n 0, 1) := by decide +kernel
theorem dX13_close_357 : decode cX13_close 357 = .ok (.aload_n 2, 1) := by decide +kernel
theorem dX13_close_358 : decode cX13_close 358 = .ok (.getfield 244, 3) := by decide +kernel
theorem dX13_close_361 : decode cX13_close 361 = .ok (.iconst 1, 1) := by decide +kernel
theorem dX13_close_362 : decode cX13_close 362 = .ok (.isub, 1) := by decide +kernel
theorem dX13_close_363 : decode cX13_close 363 = .ok (.invokevirtual 86, 3) := by decide +kernel
theorem dX13_close_366 : decode cX13_close 366 = .ok (.ireturn, 1) := by decide +kernel
theorem wd_853 : Cond.methodLink RX13 253 yX13_behind ∈ lw_good := mem_t7 39 (by decide +kernel) rfl
theorem wd_854 : Cond.instanceMethod yX13_behind ∈ lw_good := mem_t7 41 (by decide +kernel) rfl
theorem wd_855 : Cond.selects RX13 yX13_behind yX13_behind ∈ lw_good := mem_p 37 (by decide +kernel) rfl
theorem wd_856 : Cond.code yX13_behind cX13_behind 7 (some .int) ∈ lw_good := mem_t7 42 rfl rfl
theorem wd_857 : Cond.methodLink RX13 271 yX13_looses ∈ lw_good := mem_t7 51 (by decide +kernel) rfl
theorem wd_858 : Cond.instanceMethod yX13_looses ∈ lw_good := mem_t7 53 (by decide +kernel) rfl
theorem wd_859 : Cond.selects RX13 yX13_looses yX13_looses ∈ lw_good := mem_p 38 (by decide +kernel) rfl
theorem wd_860 : Cond.code yX13_looses cX13_looses 12 none ∈ lw_good := mem_t7 54 rfl rfl
theorem wd_861 : Cond.methodLink RX13 285 yX13_settled ∈ lw_good := mem_t7 113 (by decide +kernel) rfl
theorem wd_862 : Cond.static yX13_settled ∈ lw_good := mem_t7 114 (by decide +kernel) rfl
theorem wd_863 : Cond.code yX13_settled cX13_settled 5 none ∈ lw_good := mem_t7 115 rfl rfl
theorem wd_864 : Cond.methodLink RX13 292 yX13_incomes ∈ lw_good := mem_t7 116 (by decide +kernel) rfl
theorem wd_865 : Cond.instanceMethod yX13_incomes ∈ lw_good := mem_t7 118 (by decide +kernel) rfl
theorem wd_866 : Cond.selects RX13 yX13_incomes yX13_incomes ∈ lw_good := mem_p 50 (by decide +kernel) rfl
theorem wd_867 : Cond.code yX13_incomes cX13_incomes 6 none ∈ lw_good := mem_t7 119 rfl rfl
theorem wd_868 : Cond.methodLink RX13 295 yX13_ends ∈ lw_good := mem_t7 121 (by decide +kernel) rfl
theorem wd_869 : Cond.static yX13_ends ∈ lw_good := mem_t7 122 (by decide +kernel) rfl
theorem wd_870 : Cond.code yX13_ends cX13_ends 5 none ∈ lw_good := mem_t7 123 rfl rfl
theorem wd_871 : Cond.methodLink RX13 282 yX13_mended ∈ lw_good := mem_t7 109 (by decide +kernel) rfl
theorem wd_872 : Cond.instanceMethod yX13_mended ∈ lw_good := mem_t7 111 (by decide +kernel) rfl
theorem wd_873 : Cond.selects RX13 yX13_mended yX13_mended ∈ lw_good := mem_p 49 (by decide +kernel) rfl
theorem wd_874 : Cond.code yX13_mended cX13_mended 4 none ∈ lw_good := mem_t7 112 rfl rfl
theorem wd_875 : Cond.methodLink RX13 275 yX13_stretch ∈ lw_good := mem_t7 56 (by decide +kernel) rfl
theorem wd_876 : Cond.instanceMethod yX13_stretch ∈ lw_good := mem_t7 58 (by decide +kernel) rfl
theorem wd_877 : Cond.selects RX13 yX13_stretch yX13_stretch ∈ lw_good := mem_p 39 (by decide +kernel) rfl
theorem wd_878 : Cond.code yX13_stretch cX13_stretch 13 none ∈ lw_good := mem_t7 59 rfl rfl
theorem wd_879 : Cond.methodLink RX13 262 yX13_isParted ∈ lw_good := mem_t7 44 (by decide +kernel) rfl
theorem wd_880 : Cond.static yX13_isParted ∈ lw_good := mem_t7 45 (by decide +kernel) rfl
theorem wd_881 : Cond.code yX13_isParted cX13_isParted 4 (some .boolean) ∈ lw_good := mem_t7 46 rfl rfl
theorem wd_882 : Cond.methodLink RX13 250 yX13_refusedAt ∈ lw_good := mem_t7 35 (by decide +kernel) rfl
theorem wd_883 : Cond.instanceMethod yX13_refusedAt ∈ lw_good := mem_t7 37 (by decide +kernel) rfl
theorem wd_884 : Cond.selects RX13 yX13_refusedAt yX13_refusedAt ∈ lw_good := mem_p 36 (by decide +kernel) rfl
theorem wd_885 : Cond.code yX13_refusedAt cX13_refusedAt 3 (some .int) ∈ lw_good := mem_t7 38 rfl rfl
theorem pv_ge {first to years closed : Int} {e : Nat → Int32} (h : HE first to years closed e) (hy : years ≤ 12) : ∀ k : Nat, (k : Int) ≤ years → first - 1 ≤ pv first e k := by
  intro k
  induction k with
  | zero => intro _; exact Int.le_refl _
  | succ k ih =>
    intro hk
    have h1 := ih (by omega)
    have h2 := (h.2.2 k (by omega) (by omega)).1
    show first - 1 ≤ (e k).toInt
    omega
theorem heC {first to years closed : Int} {e f37 : Nat → Int32} {v13 v12 n k : Nat} (h : HE first to years closed e) (hc : closed = (v13 : Int)) (hy : years = (v12 : Int)) (hne : ¬ v13 = v12) (h12 : v12 ≤ 12) (e37 : e = f37) (hk : k = v13) (ec : f37 k = nI n) (hn : n < 1000) : v13 < v12 ∧ to + 1 ≤ (n : Int) ∧ (n : Int) ≤ to + 100 ∧ first ≤ to + 1 := by
  have h0 := h.1
  have hlt : v13 < v12 := by omega
  have h2 := h.2.2 v13 (by omega) (by omega)
  have h3 : to = pv first e v13 := by
    have := h.2.1
    rw [hc, show ((v13 : Int)).toNat = v13 from by omega] at this
    exact this
  have h4 := pv_ge h (by omega) v13 (by omega)
  have h5 : (e v13).toInt = (n : Int) := by
    rw [e37, ← hk, ec, nI_toInt (by omega)]
  omega
/-- the stretches that close() has laid up to day d -/
def SD (F n d : Nat) (g h : Nat → Int32) : Prop := F ≤ d ∧ n ≤ d - F ∧ (d = F ∨ (1 ≤ n ∧ 1 ≤ (h 0).toInt)) ∧ ∀ i : Nat, i < n → (F : Int) ≤ (g i).toInt ∧ 0 ≤ (h i).toInt ∧ (g i).toInt + (h i).toInt ≤ (d : Int)
theorem SD.rf (F : Nat) (g h : Nat → Int32) : SD F 0 F g h := ⟨Nat.le_refl _, Nat.zero_le _, Or.inl rfl, fun i hi => absurd hi (Nat.not_lt_zero _)⟩
theorem SD.new {F n d k k2 c : Nat} {g h : Nat → Int32} (s : SD F n d g h) (hd : d < 1000) (hk : k = n) (hk2 : k2 = n) (hc : c = 0) : SD F (n + 1) (d + 1) (upd g k (nI d)) (upd (upd h k 0) k2 (nI (c + 1))) := by
  obtain ⟨s1, s2, s3, s4⟩ := s
  subst hk
  subst hk2
  subst hc
  refine ⟨by omega, by omega, Or.inr ⟨by omega, ?_⟩, fun i hi => ?_⟩
  · by_cases z : 0 = k2
    · rw [← z, upd_self]
      decide
    · rw [upd_ne _ _ z, upd_ne _ _ z]
      rcases s3 with q | q
      · omega
      · exact q.2
  · by_cases z : i = k2
    · rw [z, upd_self, upd_self, nI_toInt (by omega), nI_toInt (by omega)]
      omega
    · rw [upd_ne _ _ z, upd_ne _ _ z, upd_ne _ _ z]
      have := s4 i (by omega)
      omega
theorem SD.old {F n d k c : Nat} {g h : Nat → Int32} (s : SD F n d g h) (hn : 1 ≤ n) (hk : k = n - 1) (hc : h k = nI c) (hc2 : c < 1001) : SD F n (d + 1) g (upd h k (nI (c + 1))) := by
  obtain ⟨s1, s2, s3, s4⟩ := s
  refine ⟨by omega, by omega, Or.inr ⟨hn, ?_⟩, fun i hi => ?_⟩
  · by_cases z : 0 = k
    · rw [← z, upd_self, nI_toInt (by omega)]
      omega
    · rw [upd_ne _ _ z]
      rcases s3 with q | q
      · omega
      · exact q.2
  · by_cases z : i = k
    · rw [z, upd_self, nI_toInt (by omega)]
      have := s4 k (by omega)
      rw [hc, nI_toInt (by omega)] at this
      omega
    · rw [upd_ne _ _ z]
      have := s4 i hi
      omega
theorem SD.c {F n d k c : Nat} {g h : Nat → Int32} (s : SD F n d g h) (hn : 1 ≤ n) (hk : k = n - 1) (hc : h k = nI c) (hc2 : c < 1001) : c ≤ d := by
  have := s.2.2.2 k (by omega)
  rw [hc, nI_toInt (by omega)] at this
  omega
theorem updz {g : Nat → Int32} {k k2 n c : Nat} (hk : k = n) (hk2 : k2 = n) (e : upd g k 0 k2 = nI c) (hc : c < 1001) : c = 0 := by
  subst hk
  subst hk2
  rw [upd_self] at e
  exact ((iEQ (a := 0) (b := c) (by omega) (by omega)).mp e).symm
theorem va_up_4 {α : Type} (y : Nat → α) (k l : Nat) (p q a c : α) : va_up (va_up (va_up (va_up y k p) l q) k a) l c = va_up (va_up y k a) l c := by
  funext j
  by_cases h : j = l
  · subst h
    rw [va_up_self, va_up_self]
  · rw [va_up_ne _ _ h, va_up_ne _ _ h]
    by_cases h2 : j = k
    · subst h2
      rw [va_up_self, va_up_self]
    · rw [va_up_ne _ _ h2, va_up_ne _ _ h2, va_up_ne _ _ h, va_up_ne _ _ h2]
set_option maxHeartbeats 4000000 in
set_option maxRecDepth 100000 in
theorem g_X13_close (l : Launch) (D : va_G) (cy : Nat → ClassId) (K : Kp) (L : List Nat) (M : Hp) (sz : Nat) (za : Nat) (z0 : Int32) (z1 : Nat) (z2 : Nat) (z3 : Nat) (z4 : Int32) (z5 : Int32) (z6 : Nat) (z7 : Nat) (z8 : Nat) (z9 : Nat) (z10 : Nat) (z11 : Nat) (z12 : Nat) (z13 : Nat) (z14 : Nat) (z15 : Nat) (z16 : Nat) (z17 : Nat) (z18 : Int32) (z19 : Nat) (k1 : Int32) (hW : WOM cy K L M) (i1 : isk K L z1 23 8) (b2 : z2 ≤ 8) (b3 : z3 ≤ 40) (i6 : isk K L z6 47 40) (i7 : isk K L z7 48 40) (i8 : isk K L z8 49 8) (i9 : isk K L z9 50 8) (b10 : z10 ≤ 8) (i11 : isk K L z11 32 24) (i12 : isk K L z12 14 24) (i13 : isk K L z13 15 24) (i14 : isk K L z14 15 24) (i15 : isk K L z15 15 24) (b16 : z16 ≤ 24) (i17 : isk K L z17 14 24) (i19 : isk K L z19 15 25) (hGI : GI K L z1 z2 M) (hR5 : R5 z6 z7 M) : Met l yX13_close (wsM yX13_close cX13_close 8 (some .int)) ({ frames := 6, cells := 0, slots := 0, locals := 165 }) (va_Pc [.ref za, .int k1] (PG D cy [(za, .inr (13, [.int z0, .ref z1, .int (nI z2), .int (nI z3), .int z4, .int z5, .ref z6, .ref z7, .ref z8, .ref z9, .int (nI z10), .ref z11, .ref z12, .ref z13, .ref z14, .ref z15, .int (nI z16), .ref z17, .int z18, .ref z19]))] L M sz)) (va_Qi (fun (r : Int32) (M9 : Hp) => WOM cy K L M9 ∧ fr K L [12, 14, 15, 32, 42, 45, 46] M M9 ∧ fG K L [1, 7, 8, 13, 14, 15, 16, 17, 18] M M9 ∧ (GI K L z1 z2 M9) ∧ (True)) (fun M9 t => ∃ (w4 : Int32) (w5 : Int32) (w16 : Nat), w16 ≤ 24 ∧ PQ D [(za, .inr (13, [.int 0, .ref z1, .int (nI z2), .int (nI z3), .int w4, .int w5, .ref z6, .ref z7, .ref z8, .ref z9, .int (nI z10), .ref z11, .ref z12, .ref z13, .ref z14, .ref z15, .int (nI w16), .ref z17, .int z18, .ref z19]))] L M9 (va_A ([(za, .inr (13, [.int z0, .ref z1, .int (nI z2), .int (nI z3), .int z4, .int z5, .ref z6, .ref z7, .ref z8, .ref z9, .int (nI z10), .ref z11, .ref z12, .ref z13, .ref z14, .ref z15, .int (nI z16), .ref z17, .int z18, .ref z19]))] ++ va_pl L M) sz) t) (va_A ([(za, .inr (13, [.int z0, .ref z1, .int (nI z2), .int (nI z3), .int z4, .int z5, .ref z6, .ref z7, .ref z8, .ref z9, .int (nI z10), .ref z11, .ref z12, .ref z13, .ref z14, .ref z15, .int (nI z16), .ref z17, .int z18, .ref z19]))] ++ va_pl L M) sz)) 0 0 (va_A ([(za, .inr (13, [.int z0, .ref z1, .int (nI z2), .int (nI z3), .int z4, .int z5, .ref z6, .ref z7, .ref z8, .ref z9, .int (nI z10), .ref z11, .ref z12, .ref z13, .ref z14, .ref z15, .int (nI z16), .ref z17, .int z18, .ref z19]))] ++ va_pl L M) sz) := by
  refine Met.ofW (cc := cX13_close) (maxL := 8) (ret := (some .int)) (by decide) rfl ?_
  intro p e s m args below meth c s₁ B hml hv
  obtain ⟨rfl, hsz, hP, hK, hD0, hN⟩ := hv
  have hx := B.exec
  have hb := B.bytes
  have hr := B.returns
  have hts := atoms_spec (ws := (wsM yX13_close cX13_close 8 (some .int))) B.pre
  have hg : ∀ w ∈ lw_good, w.before _ s = true := fun w h => hts w (List.mem_cons_of_mem _ h)
  have hown : s.vm.findClass RX13 = some m.cls := findClass_of_methodNamed B.named
  have hlocks := B.notSynchronized
  subst hsz
  have hD := hD0.self (sz := s.heap.size)
  generalize hAe : va_A ([(za, .inr (13, [.int z0, .ref z1, .int (nI z2), .int (nI z3), .int z4, .int z5, .ref z6, .ref z7, .ref z8, .ref z9, .int (nI z10), .ref z11, .ref z12, .ref z13, .ref z14, .ref z15, .int (nI z16), .ref z17, .int z18, .ref z19]))] ++ va_pl L M) s.heap.size = A at hD ⊢
  have hA : ∀ q : Nat, s.heap.size ≤ q → A q := fun q h => by rw [← hAe]; exact Or.inr h
  have hS : va_S A s.heap s.heap [] := va_S.rf
  have hl := lv_entry ([.ref za, .int k1]) (n := 8) (Nat.le_of_ble_eq_true rfl)
  rw [lg_entry_eq]
  generalize (lg_sl ([.ref za, .int k1]) ++ List.replicate (8 - (lg_sl ([.ref za, .int k1])).length) Slot.unset).toArray = ls at hl ⊢
  refine W.nameQ (fun Q hQ => ?_)
  refine W.nameR (fun R hR => ?_)
  have hRf : 6 ≤ R.frames := by rw [hR]; exact Nat.le_of_ble_eq_true rfl
  have hRl : 165 ≤ R.locals := by rw [hR]; exact Nat.le_of_ble_eq_true rfl
  have hRc : 0 ≤ R.cells := by rw [hR]; exact Nat.le_of_ble_eq_true rfl
  have hRs : 0 ≤ R.slots := by rw [hR]; exact Nat.le_of_ble_eq_true rfl
  have hF : fr K L [12, 14, 15, 32, 42, 45, 46] M M := fr.rf
  have hG : fG K L [1, 7, 8, 13, 14, 15, 16, 17, 18] M M := fG.rf
  have hl : lv_has ls 8 [(0, .ref za), (1, .int k1)] := hl
  have hW0 := hW
  refine lv_aload_n hx hb dX13_close_0 rfl (lv_at hl 0 rfl) ?_
  refine lv_iconst (v := 0) hx hb dX13_close_1 (by decide) ?_
  refine va_put (D := D) (ci := 13) (v := .int 0) (ty := .int) (C := RX13) (T := TX13) (N := 20) hx hb hg inG13 tyX13 tyX13_ok nmX13 hown hK hP hD hS 0 rfl rfl 0 (by decide) (hg _ wd_720) (fun _ h9 => h9) rfl (by decide +kernel) rfl rfl (Nat.le_of_ble_eq_true rfl) dX13_close_2 (fun H_1 locs hP hD hS => ?_)
  have hP : va_P D vwCl ([(za, .inr (13, [.int 0, .ref z1, .int (nI z2), .int (nI z3), .int z4, .int z5, .ref z6, .ref z7, .ref z8, .ref z9, .int (nI z10), .ref z11, .ref z12, .ref z13, .ref z14, .ref z15, .int (nI z16), .ref z17, .int z18, .ref z19]))] ++ va_pl L M) H_1 := hP
  have hD : va_D A ([(za, .inr (13, [.int 0, .ref z1, .int (nI z2), .int (nI z3), .int z4, .int z5, .ref z6, .ref z7, .ref z8, .ref z9, .int (nI z10), .ref z11, .ref z12, .ref z13, .ref z14, .ref z15, .int (nI z16), .ref z17, .int z18, .ref z19]))] ++ va_pl L M) := hD
  refine lv_aload_n hx hb dX13_close_5 rfl (lv_at hl 0 rfl) ?_
  refine lv_iload_n hx hb dX13_close_6 rfl (lv_at hl 1 rfl) ?_
  have hPc : va_P D vwCl ([(za, .inr (13, [.int 0, .ref z1, .int (nI z2), .int (nI z3), .int z4, .int z5, .ref z6, .ref z7, .ref z8, .ref z9, .int (nI z10), .ref z11, .ref z12, .ref z13, .ref z14, .ref z15, .int (nI z16), .ref z17, .int z18, .ref z19]))] ++ va_pl L M) H_1 := hP
  have hDc : va_D A ([(za, .inr (13, [.int 0, .ref z1, .int (nI z2), .int (nI z3), .int z4, .int z5, .ref z6, .ref z7, .ref z8, .ref z9, .int (nI z10), .ref z11, .ref z12, .ref z13, .ref z14, .ref z15, .int (nI z16), .ref z17, .int z18, .ref z19]))] ++ va_pl L M) := hD
  have hFc : ∀ q, va_A ([(za, .inr (13, [.int 0, .ref z1, .int (nI z2), .int (nI z3), .int z4, .int z5, .ref z6, .ref z7, .ref z8, .ref z9, .int (nI z10), .ref z11, .ref z12, .ref z13, .ref z14, .ref z15, .int (nI z16), .ref z17, .int z18, .ref z19]))] ++ va_pl L M) H_1.size q → A q := pg_free hDc hS hA
  refine va_calli (va_runV (As := [.int k1]) (rest := []) ⟨hx, hb, hml, hown, hg⟩ (r_X13_isHouse l D cy K L M H_1.size za 0 z1 z2 z3 z4 z5 z6 z7 z8 z9 z10 z11 z12 z13 z14 z15 z16 z17 z18 z19 k1  hW i1 b2 b3 i6 i7 i8 i9 b10 i11 i12 i13 i14 i15 b16 i17 i19) (cwV 1 hg (gV wd_714 wd_715 wd_716 wd_717 wd_718) rfl rfl rfl (by decide +kernel) ⟨(Nat.le_trans (Nat.le_of_ble_eq_true rfl) hRf), (Nat.le_trans (Nat.le_of_ble_eq_true rfl) hRl)⟩) ⟨PG.blind, va_recv hK hP (ci := 13) (q0 := 0) rfl rfl, fun U hU hW => ⟨rfl, PG.at hPc hK hDc hN hU hW⟩⟩ rfl rfl hl.1 rfl (lv_room (Nat.le_of_ble_eq_true rfl)) dX13_close_7 ⟨(Nat.le_trans (Nat.le_of_ble_eq_true rfl) hRc), (Nat.le_trans (Nat.le_of_ble_eq_true rfl) hRs)⟩) hS (fun q _ h => hFc q h) hFc (fun r_3 M_4 t H_2 locs ht hvm hw hB hz1 hk1 hS => ?_)
  have hp_5 := hw
  obtain ⟨hP1, hD1⟩ := hB
  rw [ht] at hP1
  have hP : va_P D vwCl ([(za, .inr (13, [.int 0, .ref z1, .int (nI z2), .int (nI z3), .int z4, .int z5, .ref z6, .ref z7, .ref z8, .ref z9, .int (nI z10), .ref z11, .ref z12, .ref z13, .ref z14, .ref z15, .int (nI z16), .ref z17, .int z18, .ref z19]))] ++ va_pl L M) H_2 := hP1
  have hD : va_D A ([(za, .inr (13, [.int 0, .ref z1, .int (nI z2), .int (nI z3), .int z4, .int z5, .ref z6, .ref z7, .ref z8, .ref z9, .int (nI z10), .ref z11, .ref z12, .ref z13, .ref z14, .ref z15, .int (nI z16), .ref z17, .int z18, .ref z19]))] ++ va_pl L M) := hD1.mono hFc
  rcases hp_5 with ⟨rfl, c_6, c_7⟩ | rfl
  · have hz := rfl (a := 0)
    refine lv_if_ne (tgt := 19) hx hb dX13_close_10 (by decide) (fun _ => ?_) (fun c_8 => absurd c_8 (by decide))
    refine lv_aload_n hx hb dX13_close_19 rfl (lv_at hl 0 rfl) ?_
    refine va_get (D := D) (ci := 13) (v := .ref z1) (C := RX13) (T := TX13) (N := 20) hx hb hg inG13 hown hK hP 0 rfl rfl 1 (by decide) (hg _ wd_739) (fun _ h9 => h9) rfl dX13_close_20 ?_
    refine lv_iload_n hx hb dX13_close_23 rfl (lv_at hl 1 rfl) ?_
    obtain ⟨f9, hM9, hf9⟩ := hW.open_23 i1
    have hi_10 : vp_in k1 8 := (inbW (a := z2) (by omega) (inb k1 z2 (by omega) c_6 c_7))
    refine pg_aldq hx hb hK hP i1.1 9 hM9 rfl hi_10 dX13_close_24 ?_
    obtain ⟨b11, eb_12, hb_13⟩ := hf9 _ (vp_lt hi_10)
    rw [eb_12]
    have hact : ACT z1 z2 b11 M := ⟨(k1 : Int32).toNatClampNeg, vp_lt (inb k1 z2 (by omega) c_6 c_7), by rw [show RFc (M z1) = f9 from by rw [hM9]; rfl]; exact eb_12⟩
    have hAT := GI.at hGI hact
    have hV : VW K L M M b11 (fx M b11) (ax M b11) := VW.rf b11 hGI.2.2.2
    refine lv_astore_n (lv' := [(2, .ref b11), (0, .ref za), (1, .int k1)]) hx hb dX13_close_25 rfl hl (by decide) rfl (fun ls hl => ?_)
    obtain ⟨fs14, hM14, hn14, hl14⟩ := hW.open_12 hb_13
    obtain ⟨v15, hv15, hc15⟩ : ∃ v : Nat, fs14[0]? = some (.int (nI v) : Value) ∧ v ≤ 999 := hl14 0 (by decide)
    have hx0 : (fx M b11 0) = ((v15 : Nat) : Int) := (congrFun hV.2.1 0).symm.trans ((fx_of hM14 rfl hv15).trans (nI_toInt (by omega)))
    obtain ⟨v16, hv16, hc16⟩ : ∃ v : Int32, fs14[1]? = some (.int v : Value) ∧ (v = (-1) ∨ ∃ c : Nat, c < 1000 ∧ v = nI c) := hl14 1 (by decide)
    have hx1 : (fx M b11 1) = (v16 : Int32).toInt := (congrFun hV.2.1 1).symm.trans (fx_of hM14 rfl hv16)
    obtain ⟨v17, hv17, hc17⟩ : ∃ v : Nat, fs14[11]? = some (.int (nI v) : Value) ∧ v ≤ 16 := hl14 11 (by decide)
    have hx11 : (fx M b11 11) = ((v17 : Nat) : Int) := (congrFun hV.2.1 11).symm.trans ((fx_of hM14 rfl hv17).trans (nI_toInt (by omega)))
    obtain ⟨v18, hv18, hc18⟩ : ∃ v : Nat, fs14[12]? = some (.int (nI v) : Value) ∧ v ≤ 12 := hl14 12 (by decide)
    have hx12 : (fx M b11 12) = ((v18 : Nat) : Int) := (congrFun hV.2.1 12).symm.trans ((fx_of hM14 rfl hv18).trans (nI_toInt (by omega)))
    obtain ⟨v19, hv19, hc19⟩ : ∃ v : Nat, fs14[13]? = some (.int (nI v) : Value) ∧ v ≤ 12 := hl14 13 (by decide)
    have hx13 : (fx M b11 13) = ((v19 : Nat) : Int) := (congrFun hV.2.1 13).symm.trans ((fx_of hM14 rfl hv19).trans (nI_toInt (by omega)))
    obtain ⟨v20, hv20, hc20⟩ : ∃ v : Nat, fs14[37]? = some (.ref v : Value) ∧ isk K L v 38 12 := hl14 37 (by decide)
    obtain ⟨f21, hM21, hf21⟩ := hW.open_38 hc20
    have hy37 : (ax M b11 37) = f21 := (congrFun hV.2.2.1 37).symm.trans (ax_of hM14 (by decide) hv20 hM21)
    have hb13 := hx13
    have hb12 := hx12
    have hb0 := hx0
    have hb37 := hy37
    refine lv_aload_n hx hb dX13_close_26 rfl (lv_at hl 0 rfl) ?_
    refine pg_getN (D := D) (ci := 12) (v := .int (nI v19)) (C := RX12) (T := TX12) (N := 51) hx hb hg inG12 hown hK hP hb_13.1 hM14 rfl 13 (by decide) (hN.use (Cond.fieldLinkNest RX13 244 RX12 "closed" "I" RX13) 22 rfl rfl) (fun _ h9 => h9) hv19 dX13_close_27 ?_
    refine lv_aload_n hx hb dX13_close_30 rfl (lv_at hl 0 rfl) ?_
    refine pg_getN (D := D) (ci := 12) (v := .int (nI v18)) (C := RX12) (T := TX12) (N := 51) hx hb hg inG12 hown hK hP hb_13.1 hM14 rfl 12 (by decide) (hN.use (Cond.fieldLinkNest RX13 233 RX12 "years" "I" RX13) 21 rfl rfl) (fun _ h9 => h9) hv18 dX13_close_31 ?_
    refine lv_icmp_ne (tgt := 44) hx hb dX13_close_34 (by decide) (fun c_22 => ?_) (fun c_22 => ?_)
    · have hz := rfl (a := 0)
      have n_23 : ¬ (v19 = v18) := fun q => c_22 ((iEQ (a := v19) (b := v18) (by omega) (by omega)).mpr q)
      refine lv_aload_n hx hb dX13_close_44 rfl (lv_at hl 0 rfl) ?_
      refine pg_getN (D := D) (ci := 12) (v := .int (nI v17)) (C := RX12) (T := TX12) (N := 51) hx hb hg inG12 hown hK hP hb_13.1 hM14 rfl 11 (by decide) (hN.use (Cond.fieldLinkNest RX13 142 RX12 "rules" "I" RX13) 20 rfl rfl) (fun _ h9 => h9) hv17 dX13_close_45 ?_
      refine lv_if_ne (tgt := 57) hx hb dX13_close_48 (by decide) (fun c_24 => ?_) (fun c_24 => ?_)
      · have hz := rfl (a := 0)
        have n_25 : ¬ (v17 = 0) := fun q => c_24 ((iEQ (a := v17) (b := 0) (by omega) (by omega)).mpr q)
        refine lv_aload_n hx hb dX13_close_57 rfl (lv_at hl 0 rfl) ?_
        refine pg_getN (D := D) (ci := 12) (v := .int v16) (C := RX12) (T := TX12) (N := 51) hx hb hg inG12 hown hK hP hb_13.1 hM14 rfl 1 (by decide) (hN.use (Cond.fieldLinkNest RX13 80 RX12 "to" "I" RX13) 10 rfl rfl) (fun _ h9 => h9) hv16 dX13_close_58 ?_
        rcases hc16 with rfl | ⟨c_26, hc_27, rfl⟩
        · have hz := rfl (a := 0)
          refine lv_iconst (v := 1) hx hb dX13_close_61 (by decide) ?_
          refine lv_iadd hx hb dX13_close_62 ?_
          refine lv_topi (fun f_28 ef_28 => ?_)
          obtain rfl : f_28 = 0 := by rw [ef_28]; decide
          refine lv_istore_n (lv' := [(3, .int 0), (2, .ref b11), (0, .ref za), (1, .int k1)]) hx hb dX13_close_63 rfl hl (by decide) rfl (fun ls hl => ?_)
          have hlt13 : v19 < v18 := by have h := hAT.2.2.2.2.1; omega
          refine lv_aload_n hx hb dX13_close_64 rfl (lv_at hl 1 rfl) ?_
          refine pg_getN (D := D) (ci := 12) (v := .ref v20) (C := RX12) (T := TX12) (N := 51) hx hb hg inG12 hown hK hP hb_13.1 hM14 rfl 37 (by decide) (hN.use (Cond.fieldLinkNest RX13 236 RX12 "end" "[I" RX13) 46 rfl rfl) (fun _ h9 => h9) hv20 dX13_close_65 ?_
          refine lv_aload_n hx hb dX13_close_68 rfl (lv_at hl 1 rfl) ?_
          refine pg_getN (D := D) (ci := 12) (v := .int (nI v19)) (C := RX12) (T := TX12) (N := 51) hx hb hg inG12 hown hK hP hb_13.1 hM14 rfl 13 (by decide) (hN.use (Cond.fieldLinkNest RX13 244 RX12 "closed" "I" RX13) 22 rfl rfl) (fun _ h9 => h9) hv19 dX13_close_69 ?_
          have hi_29 : vp_in (nI v19) 12 := (inbN v19 12 (by omega) (by omega))
          refine pg_iald hx hb hK hP hc20.1 0 hM21 rfl hi_29 dX13_close_72 ?_
          have hp_30 := hf21 _ (vp_lt hi_29)
          obtain ⟨c_31, hc_32, ec_33⟩ := hp_30
          rw [ec_33]
          refine lv_istore (lv' := [(4, .int (nI c_31)), (3, .int 0), (2, .ref b11), (0, .ref za), (1, .int k1)]) hx hb dX13_close_73 hl (by decide) rfl (fun ls hl => ?_)
          have hx1b : fx M b11 1 = ((0 : Nat) : Int) - 1 := by rw [hx1]; first | decide | (rw [nI_toInt (by omega)]; omega)
          obtain ⟨hq1, hq2, hq3, hq4⟩ := heC hAT.2.2.2.2 hb13 hb12 (by omega) (by omega) hb37 (nI_cl (by omega)) ec_33 (by omega)
          have h11 : 1 ≤ fx M b11 11 := by omega
          have hT37 : (ax M b11 37 v19).toInt = ((c_31 : Nat) : Int) := by
            have h := ec_33
            rw [nI_cl (by omega)] at h
            rw [hb37, h, nI_toInt (by omega)]
          refine lv_iload_n hx hb dX13_close_75 rfl (lv_at hl 1 rfl) ?_
          refine lv_istore (lv' := [(5, .int 0), (4, .int (nI c_31)), (3, .int 0), (2, .ref b11), (0, .ref za), (1, .int k1)]) hx hb dX13_close_76 hl (by decide) rfl (fun ls hl => ?_)
          have key_34 : ∀ (fu_36 : Nat) (v5w37 : Nat) (M_39 : Hp) (H_40 : Heap) (locs : List Loc) (ls : Array Slot), 1001 - v5w37 < fu_36 → M_39 b11 = .inr (12, fs14) → v5w37 ≤ 1000 → WOM cy K L M_39 → fr K L [12, 14, 15, 32, 42, 45, 46] M M_39 → fG K L [1, 7, 8, 13, 14, 15, 16, 17, 18] M M_39 → VW K L M M_39 b11 (fx M b11) (ax M b11) → va_P D vwCl ([(za, .inr (13, [.int 0, .ref z1, .int (nI z2), .int (nI z3), .int z4, .int z5, .ref z6, .ref z7, .ref z8, .ref z9, .int (nI z10), .ref z11, .ref z12, .ref z13, .ref z14, .ref z15, .int (nI z16), .ref z17, .int z18, .ref z19]))] ++ va_pl L M_39) H_40 → va_D A ([(za, .inr (13, [.int 0, .ref z1, .int (nI z2), .int (nI z3), .int z4, .int z5, .ref z6, .ref z7, .ref z8, .ref z9, .int (nI z10), .ref z11, .ref z12, .ref z13, .ref z14, .ref z15, .int (nI z16), .ref z17, .int z18, .ref z19]))] ++ va_pl L M_39) → va_S A s.heap H_40 locs → lv_has ls 8 [(5, .int (nI v5w37)), (4, .int (nI c_31)), (3, .int 0), (2, .ref b11), (0, .ref za), (1, .int k1)] → W p l e R s m ([.ref za, .int k1] : List Value).toArray below meth c H_40 locs 0 0 Q (F0 m 78 ls []) := by
            intro fu_36
            induction fu_36 with
            | zero => intro v5w37 M_39 H_40 locs ls h; exact absurd h (Nat.not_lt_zero _)
            | succ fu_36 ih_35 =>
              intro v5w37 M_39 H_40 locs ls hfu hM_41 hx_38 hW hF hG hV hP hD hS hl
              refine lv_iload hx hb dX13_close_78 (lv_at hl 0 rfl) ?_
              refine lv_iload hx hb dX13_close_80 (lv_at hl 1 rfl) ?_
              refine lv_icmp_gt (tgt := 108) hx hb dX13_close_82 (by decide) (fun c_42 => ?_) (fun c_42 => ?_)
              · have hz := rfl (a := 0)
                have n_43 : c_31 < v5w37 := (iLT (a := c_31) (b := v5w37) (by omega) (by omega)).mp c_42
                refine lv_aload_n hx hb dX13_close_108 rfl (lv_at hl 4 rfl) ?_
                refine lv_iload_n hx hb dX13_close_109 rfl (lv_at hl 5 rfl) ?_
                refine lv_iload hx hb dX13_close_110 (lv_at hl 1 rfl) ?_
                have hPc : va_P D vwCl ([(za, .inr (13, [.int 0, .ref z1, .int (nI z2), .int (nI z3), .int z4, .int z5, .ref z6, .ref z7, .ref z8, .ref z9, .int (nI z10), .ref z11, .ref z12, .ref z13, .ref z14, .ref z15, .int (nI z16), .ref z17, .int z18, .ref z19]))] ++ va_pl L M_39) H_40 := hP
                have hDc : va_D A ([(za, .inr (13, [.int 0, .ref z1, .int (nI z2), .int (nI z3), .int z4, .int z5, .ref z6, .ref z7, .ref z8, .ref z9, .int (nI z10), .ref z11, .ref z12, .ref z13, .ref z14, .ref z15, .int (nI z16), .ref z17, .int z18, .ref z19]))] ++ va_pl L M_39) := hD
                have hFc : ∀ q, va_A ([(za, .inr (13, [.int 0, .ref z1, .int (nI z2), .int (nI z3), .int z4, .int z5, .ref z6, .ref z7, .ref z8, .ref z9, .int (nI z10), .ref z11, .ref z12, .ref z13, .ref z14, .ref z15, .int (nI z16), .ref z17, .int z18, .ref z19]))] ++ va_pl L M_39) H_40.size q → A q := pg_free hDc hS hA
                refine va_calli (va_runV (As := [.int k1, .int (nI c_31)]) (rest := []) ⟨hx, hb, hml, hown, hg⟩ (r_X13_behind l D cy K L M_39 H_40.size za 0 z1 z2 z3 z4 z5 z6 z7 z8 z9 z10 z11 z12 z13 z14 z15 z16 z17 z18 z19 k1 (nI c_31)  hW i1 b2 b3 i6 i7 i8 i9 b10 i11 i12 i13 i14 i15 b16 i17 i19) (cwV 2 hg (gV wd_853 wd_854 wd_855 wd_717 wd_856) rfl rfl rfl (by decide +kernel) ⟨(Nat.le_trans (Nat.le_of_ble_eq_true rfl) hRf), (Nat.le_trans (Nat.le_of_ble_eq_true rfl) hRl)⟩) ⟨PG.blind, va_recv hK hP (ci := 13) (q0 := 0) rfl rfl, fun U hU hW => ⟨rfl, PG.at hPc hK hDc hN hU hW⟩⟩ rfl rfl hl.1 rfl (lv_room (Nat.le_of_ble_eq_true rfl)) dX13_close_112 ⟨(Nat.le_trans (Nat.le_of_ble_eq_true rfl) hRc), (Nat.le_trans (Nat.le_of_ble_eq_true rfl) hRs)⟩) hS (fun q _ h => hFc q h) hFc (fun r_45 M_46 t H_44 locs ht hvm hw hB hz1 hk1 hS => ?_)
                have hp_47 := hw
                obtain ⟨hP1, hD1⟩ := hB
                rw [ht] at hP1
                have hP : va_P D vwCl ([(za, .inr (13, [.int 0, .ref z1, .int (nI z2), .int (nI z3), .int z4, .int z5, .ref z6, .ref z7, .ref z8, .ref z9, .int (nI z10), .ref z11, .ref z12, .ref z13, .ref z14, .ref z15, .int (nI z16), .ref z17, .int z18, .ref z19]))] ++ va_pl L M_39) H_44 := hP1
                have hD : va_D A ([(za, .inr (13, [.int 0, .ref z1, .int (nI z2), .int (nI z3), .int z4, .int z5, .ref z6, .ref z7, .ref z8, .ref z9, .int (nI z10), .ref z11, .ref z12, .ref z13, .ref z14, .ref z15, .int (nI z16), .ref z17, .int z18, .ref z19]))] ++ va_pl L M_39) := hD1.mono hFc
                rcases hp_47 with rfl | ⟨j_48, rfl, c_49⟩
                · have hz := rfl (a := 0)
                  refine lv_istore (lv' := [(5, .int (-1)), (4, .int (nI c_31)), (3, .int 0), (2, .ref b11), (0, .ref za), (1, .int k1)]) hx hb dX13_close_115 hl (by decide) rfl (fun ls hl => ?_)
                  refine lv_iload hx hb dX13_close_117 (lv_at hl 0 rfl) ?_
                  refine lv_iconst (v := (-1)) hx hb dX13_close_119 (by decide) ?_
                  refine lv_icmp_eq (tgt := 132) hx hb dX13_close_120 (by decide) (fun _ => ?_) (fun c_50 => absurd c_50 (by decide))
                  refine lv_aload_n hx hb dX13_close_132 rfl (lv_at hl 3 rfl) ?_
                  refine lv_iconst (v := 0) hx hb dX13_close_133 (by decide) ?_
                  refine pg_putN (D := D) (ci := 12) (v := .int 0) (ty := .int) (C := RX12) (T := TX12) (N := 51) hx hb hg inG12 tyX12 tyX12_ok nmX12 hown hK hP hD hS hb_13.1 hM_41 rfl 17 (by decide) (hN.use (Cond.fieldLinkNest RX13 256 RX12 "stretches" "I" RX13) 26 rfl rfl) (fun _ h9 => h9) rfl (by decide +kernel) rfl rfl (by rw [hn14]; decide) dX13_close_134 (fun H_51 locs hP hD hS => ?_)
                  have hs_54 : (fs14.set 17 (.int 0))[17]? = some (.int (nI 0)) := List.getElem?_set_self (by rw [hn14]; decide)
                  have hk_53 := fld12_set (k := 17) (w := .int 0) hl14 (show fld12 K L 17 (fs14.set 17 (.int 0)) from ⟨0, hs_54, by omega⟩)
                  have hn_55 : (fs14.set 17 (.int 0)).length = 51 := by rw [List.length_set]; exact hn14
                  have hv_56 : (fs14.set 17 (.int 0))[0]? = some (.int (nI v15)) := by rw [List.getElem?_set_ne (by decide)]; exact hv15
                  have hv_57 : (fs14.set 17 (.int 0))[1]? = some (.int (-1)) := by rw [List.getElem?_set_ne (by decide)]; exact hv16
                  have hv_58 : (fs14.set 17 (.int 0))[11]? = some (.int (nI v17)) := by rw [List.getElem?_set_ne (by decide)]; exact hv17
                  have hv_59 : (fs14.set 17 (.int 0))[12]? = some (.int (nI v18)) := by rw [List.getElem?_set_ne (by decide)]; exact hv18
                  have hv_60 : (fs14.set 17 (.int 0))[13]? = some (.int (nI v19)) := by rw [List.getElem?_set_ne (by decide)]; exact hv19
                  have hv_61 : (fs14.set 17 (.int 0))[37]? = some (.ref v20) := by rw [List.getElem?_set_ne (by decide)]; exact hv20
                  have hb_62 : 0 ≤ 120 := by omega
                  obtain ⟨M_63, eM_63⟩ : ∃ M1 : Hp, M1 = va_up M_39 b11 (.inr (12, fs14.set 17 (.int 0))) := ⟨_, rfl⟩
                  have hV : VW K L M M_63 b11 (va_up (fx M b11) 17 (0 : Int)) (ax M b11) := by rw [eM_63]; exact hV.put hW hb_13 hM_41 hn14 rfl (by decide) rfl (by decide)
                  have hP : va_P D vwCl ([(za, .inr (13, [.int 0, .ref z1, .int (nI z2), .int (nI z3), .int z4, .int z5, .ref z6, .ref z7, .ref z8, .ref z9, .int (nI z10), .ref z11, .ref z12, .ref z13, .ref z14, .ref z15, .int (nI z16), .ref z17, .int z18, .ref z19]))] ++ va_pl L M_63) H_51 := by rw [eM_63]; exact hP
                  have hD : va_D A ([(za, .inr (13, [.int 0, .ref z1, .int (nI z2), .int (nI z3), .int z4, .int z5, .ref z6, .ref z7, .ref z8, .ref z9, .int (nI z10), .ref z11, .ref z12, .ref z13, .ref z14, .ref z15, .int (nI z16), .ref z17, .int z18, .ref z19]))] ++ va_pl L M_63) := by rw [eM_63]; exact hD
                  have hW : WOM cy K L M_63 := by rw [eM_63]; exact hW.up_12 hb_13 ⟨_, rfl, hn_55, hk_53⟩
                  have hF : fr K L [12, 14, 15, 32, 42, 45, 46] M M_63 := by rw [eM_63]; exact hF.up hb_13 (by decide)
                  have hG : fG K L [1, 7, 8, 13, 14, 15, 16, 17, 18] M M_63 := by rw [eM_63]; exact hG.up hM_41 (by decide)
                  have hM_64 : M_63 b11 = .inr (12, fs14.set 17 (.int 0)) := by rw [eM_63]; exact va_up_self _ _ _
                  refine lv_iconst (v := 0) hx hb dX13_close_137 (by decide) ?_
                  refine lv_istore (lv' := [(6, .int 0), (5, .int (-1)), (4, .int (nI c_31)), (3, .int 0), (2, .ref b11), (0, .ref za), (1, .int k1)]) hx hb dX13_close_138 hl (by decide) rfl (fun ls hl => ?_)
                  have key_65 : ∀ (fu_67 : Nat) (v6w68 : Nat) (M_70 : Hp) (H_71 : Heap) (locs : List Loc) (ls : Array Slot), 24 - v6w68 < fu_67 → M_70 b11 = .inr (12, fs14.set 17 (.int 0)) → v6w68 ≤ 24 → WOM cy K L M_70 → fr K L [12, 14, 15, 32, 42, 45, 46] M M_70 → fG K L [1, 7, 8, 13, 14, 15, 16, 17, 18] M M_70 → VW K L M M_70 b11 (va_up (fx M b11) 17 (0 : Int)) (ax M b11) → va_P D vwCl ([(za, .inr (13, [.int 0, .ref z1, .int (nI z2), .int (nI z3), .int z4, .int z5, .ref z6, .ref z7, .ref z8, .ref z9, .int (nI z10), .ref z11, .ref z12, .ref z13, .ref z14, .ref z15, .int (nI z16), .ref z17, .int z18, .ref z19]))] ++ va_pl L M_70) H_71 → va_D A ([(za, .inr (13, [.int 0, .ref z1, .int (nI z2), .int (nI z3), .int z4, .int z5, .ref z6, .ref z7, .ref z8, .ref z9, .int (nI z10), .ref z11, .ref z12, .ref z13, .ref z14, .ref z15, .int (nI z16), .ref z17, .int z18, .ref z19]))] ++ va_pl L M_70) → va_S A s.heap H_71 locs → lv_has ls 8 [(6, .int (nI v6w68)), (5, .int (-1)), (4, .int (nI c_31)), (3, .int 0), (2, .ref b11), (0, .ref za), (1, .int k1)] → W p l e R s m ([.ref za, .int k1] : List Value).toArray below meth c H_71 locs 0 0 Q (F0 m 140 ls []) := by
                    intro fu_67
                    induction fu_67 with
                    | zero => intro v6w68 M_70 H_71 locs ls h; exact absurd h (Nat.not_lt_zero _)
                    | succ fu_67 ih_66 =>
                      intro v6w68 M_70 H_71 locs ls hfu hM_72 hx_69 hW hF hG hV hP hD hS hl
                      refine lv_iload hx hb dX13_close_140 (lv_at hl 0 rfl) ?_
                      refine lv_bipush (v := 24) hx hb dX13_close_142 (by decide) ?_
                      refine lv_icmp_ge (tgt := 161) hx hb dX13_close_144 (by decide) (fun c_73 => ?_) (fun c_73 => ?_)
                      · have hz := rfl (a := 0)
                        have n_74 : 24 ≤ v6w68 := (iLE (a := 24) (b := v6w68) (by omega) (by omega)).mp c_73
                        refine lv_iload_n hx hb dX13_close_161 rfl (lv_at hl 3 rfl) ?_
                        refine lv_istore (lv' := [(6, .int 0), (5, .int (-1)), (4, .int (nI c_31)), (3, .int 0), (2, .ref b11), (0, .ref za), (1, .int k1)]) hx hb dX13_close_162 hl (by decide) rfl (fun ls hl => ?_)
                        have key_75 : ∀ (fu_77 : Nat) (v6w78 : Nat) (gnw78 : Nat) (gpw78 : Nat → Int32) (gqw78 : Nat → Int32) (M_81 : Hp) (H_82 : Heap) (locs : List Loc) (ls : Array Slot), 1001 - v6w78 < fu_77 → v6w78 ≤ c_31 + 1 → SD 0 gnw78 v6w78 gpw78 gqw78 → WOM cy K L M_81 → fr K L [12, 14, 15, 32, 42, 45, 46] M M_81 → fG K L [1, 7, 8, 13, 14, 15, 16, 17, 18] M M_81 → VW K L M M_81 b11 (va_up (fx M b11) 17 ((gnw78 : Nat) : Int)) (va_up (va_up (ax M b11) 44 gpw78) 45 gqw78) → va_P D vwCl ([(za, .inr (13, [.int 0, .ref z1, .int (nI z2), .int (nI z3), .int z4, .int z5, .ref z6, .ref z7, .ref z8, .ref z9, .int (nI z10), .ref z11, .ref z12, .ref z13, .ref z14, .ref z15, .int (nI z16), .ref z17, .int z18, .ref z19]))] ++ va_pl L M_81) H_82 → va_D A ([(za, .inr (13, [.int 0, .ref z1, .int (nI z2), .int (nI z3), .int z4, .int z5, .ref z6, .ref z7, .ref z8, .ref z9, .int (nI z10), .ref z11, .ref z12, .ref z13, .ref z14, .ref z15, .int (nI z16), .ref z17, .int z18, .ref z19]))] ++ va_pl L M_81) → va_S A s.heap H_82 locs → lv_has ls 8 [(6, .int (nI v6w78)), (5, .int (-1)), (4, .int (nI c_31)), (3, .int 0), (2, .ref b11), (0, .ref za), (1, .int k1)] → W p l e R s m ([.ref za, .int k1] : List Value).toArray below meth c H_82 locs 0 0 Q (F0 m 164 ls []) := by
                          intro fu_77
                          induction fu_77 with
                          | zero => intro v6w78 gnw78 gpw78 gqw78 M_81 H_82 locs ls h; exact absurd h (Nat.not_lt_zero _)
                          | succ fu_77 ih_76 =>
                            intro v6w78 gnw78 gpw78 gqw78 M_81 H_82 locs ls hfu hx_79 hx_80 hW hF hG hV hP hD hS hl
                            refine lv_iload hx hb dX13_close_164 (lv_at hl 0 rfl) ?_
                            refine lv_iload hx hb dX13_close_166 (lv_at hl 2 rfl) ?_
                            refine lv_icmp_gt (tgt := 238) hx hb dX13_close_168 (by decide) (fun c_83 => ?_) (fun c_83 => ?_)
                            · have hz := rfl (a := 0)
                              have n_84 : c_31 < v6w78 := (iLT (a := c_31) (b := v6w78) (by omega) (by omega)).mp c_83
                              obtain ⟨fs85, hM85, hn85, hl85⟩ := hW.open_12 hb_13
                              obtain ⟨v86, hv86, hc86⟩ : ∃ v : Nat, fs85[17]? = some (.int (nI v) : Value) ∧ v ≤ 120 := hl85 17 (by decide)
                              have hx17 : ((gnw78 : Nat) : Int) = ((v86 : Nat) : Int) := (congrFun hV.2.1 17).symm.trans ((fx_of hM85 rfl hv86).trans (nI_toInt (by omega)))
                              have hSD := hx_80
                              obtain ⟨hs1, hs2, hs3, hs4⟩ := hx_80
                              have hNn : 1 ≤ gnw78 ∧ 1 ≤ (gqw78 0).toInt := by rcases hs3 with q | q <;> first | exact q | omega
                              have hN1 := hNn.1
                              have hs45 := hNn.2
                              refine lv_aload_n hx hb dX13_close_238 rfl (lv_at hl 4 rfl) ?_
                              refine pg_getN (D := D) (ci := 12) (v := .int (nI v86)) (C := RX12) (T := TX12) (N := 51) hx hb hg inG12 hown hK hP hb_13.1 hM85 rfl 17 (by decide) (hN.use (Cond.fieldLinkNest RX13 256 RX12 "stretches" "I" RX13) 26 rfl rfl) (fun _ h9 => h9) hv86 dX13_close_239 ?_
                              refine lv_istore (lv' := [(6, .int (nI v86)), (5, .int (-1)), (4, .int (nI c_31)), (3, .int 0), (2, .ref b11), (0, .ref za), (1, .int k1)]) hx hb dX13_close_242 hl (by decide) rfl (fun ls hl => ?_)
                              refine lv_aload_n hx hb dX13_close_244 rfl (lv_at hl 5 rfl) ?_
                              refine lv_aload_n hx hb dX13_close_245 rfl (lv_at hl 4 rfl) ?_
                              refine lv_iload hx hb dX13_close_246 (lv_at hl 0 rfl) ?_
                              have hPc : va_P D vwCl ([(za, .inr (13, [.int 0, .ref z1, .int (nI z2), .int (nI z3), .int z4, .int z5, .ref z6, .ref z7, .ref z8, .ref z9, .int (nI z10), .ref z11, .ref z12, .ref z13, .ref z14, .ref z15, .int (nI z16), .ref z17, .int z18, .ref z19]))] ++ va_pl L M_81) H_82 := hP
                              have hDc : va_D A ([(za, .inr (13, [.int 0, .ref z1, .int (nI z2), .int (nI z3), .int z4, .int z5, .ref z6, .ref z7, .ref z8, .ref z9, .int (nI z10), .ref z11, .ref z12, .ref z13, .ref z14, .ref z15, .int (nI z16), .ref z17, .int z18, .ref z19]))] ++ va_pl L M_81) := hD
                              have hFc : ∀ q, va_A ([(za, .inr (13, [.int 0, .ref z1, .int (nI z2), .int (nI z3), .int z4, .int z5, .ref z6, .ref z7, .ref z8, .ref z9, .int (nI z10), .ref z11, .ref z12, .ref z13, .ref z14, .ref z15, .int (nI z16), .ref z17, .int z18, .ref z19]))] ++ va_pl L M_81) H_82.size q → A q := pg_free hDc hS hA
                              refine va_callv (va_runV (As := [.ref b11, .int (nI v86)]) (rest := []) ⟨hx, hb, hml, hown, hg⟩ (g_X13_looses l D cy K L M_81 H_82.size za 0 z1 z2 z3 z4 z5 z6 z7 z8 z9 z10 z11 z12 z13 z14 z15 z16 z17 z18 z19 b11 v86  hW i1 b2 b3 i6 i7 i8 i9 b10 i11 i12 i13 i14 i15 b16 i17 i19 hb_13 (by omega) hV.2.2.2 (by omega) (by rw [hV.2.2.1]; exact hs45)) (cwV 2 hg (gV wd_857 wd_858 wd_859 wd_717 wd_860) rfl rfl rfl (by decide +kernel) ⟨(Nat.le_trans (Nat.le_of_ble_eq_true rfl) hRf), (Nat.le_trans (Nat.le_of_ble_eq_true rfl) hRl)⟩) ⟨PG.blind, va_recv hK hP (ci := 13) (q0 := 0) rfl rfl, fun U hU hW => ⟨rfl, PG.at hPc hK hDc hN hU hW⟩⟩ rfl rfl hl.1 rfl (lv_room (Nat.le_of_ble_eq_true rfl)) dX13_close_248 ⟨(Nat.le_trans (Nat.le_of_ble_eq_true rfl) hRc), (Nat.le_trans (Nat.le_of_ble_eq_true rfl) hRs)⟩) hS (fun q _ h => hFc q h) hFc (fun M_89 t H_87 locs ht hvm hw hB hz1 hk1 hS => ?_)
                              have hWb := hW
                              obtain ⟨hW, hF2, hG2, hp_90⟩ := hw
                              obtain ⟨hP1, hD1⟩ := hB
                              rw [ht] at hP1
                              have hP : va_P D vwCl ([(za, .inr (13, [.int 0, .ref z1, .int (nI z2), .int (nI z3), .int z4, .int z5, .ref z6, .ref z7, .ref z8, .ref z9, .int (nI z10), .ref z11, .ref z12, .ref z13, .ref z14, .ref z15, .int (nI z16), .ref z17, .int z18, .ref z19]))] ++ va_pl L M_89) H_87 := hP1
                              have hD : va_D A ([(za, .inr (13, [.int 0, .ref z1, .int (nI z2), .int (nI z3), .int z4, .int z5, .ref z6, .ref z7, .ref z8, .ref z9, .int (nI z10), .ref z11, .ref z12, .ref z13, .ref z14, .ref z15, .int (nI z16), .ref z17, .int z18, .ref z19]))] ++ va_pl L M_89) := hD1.mono hFc
                              have hM_91 : M_89 b11 = .inr (12, fs85) := (hF2.at hb_13 (by decide)).trans hM85
                              have hF : fr K L [12, 14, 15, 32, 42, 45, 46] M M_89 := hF.tr hF2 (by decide)
                              have hG : fG K L [1, 7, 8, 13, 14, 15, 16, 17, 18] M M_89 := hG.tr hWb hG2 (by decide)
                              have hV : VW K L M M_89 b11 (va_up (fx M b11) 17 ((gnw78 : Nat) : Int)) (va_up (va_up (ax M b11) 44 gpw78) 45 gqw78) := hV.cal hWb hW hF2 hG2 (by decide) (by decide) hb_13
                              refine lv_iconst (v := 0) hx hb dX13_close_251 (by decide) ?_
                              refine lv_istore (lv' := [(7, .int 0), (6, .int (nI v86)), (5, .int (-1)), (4, .int (nI c_31)), (3, .int 0), (2, .ref b11), (0, .ref za), (1, .int k1)]) hx hb dX13_close_252 hl (by decide) rfl (fun ls hl => ?_)
                              have key_92 : ∀ (fu_94 : Nat) (v7w95 : Nat) (zgw95 : Nat) (M_98 : Hp) (H_99 : Heap) (locs : List Loc) (ls : Array Slot), 1001 - v7w95 < fu_94 → v7w95 ≤ v86 → zgw95 ≤ 24 → WOM cy K L M_98 → fr K L [12, 14, 15, 32, 42, 45, 46] M M_98 → fG K L [1, 7, 8, 13, 14, 15, 16, 17, 18] M M_98 → VW K L M M_98 b11 (va_up (fx M b11) 17 ((gnw78 : Nat) : Int)) (va_up (va_up (ax M b11) 44 gpw78) 45 gqw78) → va_P D vwCl ([(za, .inr (13, [.int 0, .ref z1, .int (nI z2), .int (nI z3), .int z4, .int z5, .ref z6, .ref z7, .ref z8, .ref z9, .int (nI z10), .ref z11, .ref z12, .ref z13, .ref z14, .ref z15, .int (nI zgw95), .ref z17, .int z18, .ref z19]))] ++ va_pl L M_98) H_99 → va_D A ([(za, .inr (13, [.int 0, .ref z1, .int (nI z2), .int (nI z3), .int z4, .int z5, .ref z6, .ref z7, .ref z8, .ref z9, .int (nI z10), .ref z11, .ref z12, .ref z13, .ref z14, .ref z15, .int (nI zgw95), .ref z17, .int z18, .ref z19]))] ++ va_pl L M_98) → va_S A s.heap H_99 locs → lv_has ls 8 [(7, .int (nI v7w95)), (6, .int (nI v86)), (5, .int (-1)), (4, .int (nI c_31)), (3, .int 0), (2, .ref b11), (0, .ref za), (1, .int k1)] → W p l e R s m ([.ref za, .int k1] : List Value).toArray below meth c H_99 locs 0 0 Q (F0 m 254 ls []) := by
                                intro fu_94
                                induction fu_94 with
                                | zero => intro v7w95 zgw95 M_98 H_99 locs ls h; exact absurd h (Nat.not_lt_zero _)
                                | succ fu_94 ih_93 =>
                                  intro v7w95 zgw95 M_98 H_99 locs ls hfu hx_96 hx_97 hW hF hG hV hP hD hS hl
                                  refine lv_iload hx hb dX13_close_254 (lv_at hl 0 rfl) ?_
                                  refine lv_iload hx hb dX13_close_256 (lv_at hl 1 rfl) ?_
                                  refine lv_icmp_ge (tgt := 275) hx hb dX13_close_258 (by decide) (fun c_100 => ?_) (fun c_100 => ?_)
                                  · have hz := rfl (a := 0)
                                    have n_101 : v86 ≤ v7w95 := (iLE (a := v86) (b := v7w95) (by omega) (by omega)).mp c_100
                                    refine lv_iconst (v := 0) hx hb dX13_close_275 (by decide) ?_
                                    refine lv_istore (lv' := [(7, .int 0), (6, .int (nI v86)), (5, .int (-1)), (4, .int (nI c_31)), (3, .int 0), (2, .ref b11), (0, .ref za), (1, .int k1)]) hx hb dX13_close_276 hl (by decide) rfl (fun ls hl => ?_)
                                    have key_102 : ∀ (fu_104 : Nat) (v7w105 : Nat) (zgw105 : Nat) (gnw105 : Nat) (gpw105 : Nat → Int32) (gqw105 : Nat → Int32) (M_109 : Hp) (H_110 : Heap) (locs : List Loc) (ls : Array Slot), 24 - v7w105 < fu_104 → v7w105 ≤ 20 → zgw105 ≤ 24 → gnw105 ≤ 100 + v7w105 → WOM cy K L M_109 → fr K L [12, 14, 15, 32, 42, 45, 46] M M_109 → fG K L [1, 7, 8, 13, 14, 15, 16, 17, 18] M M_109 → VW K L M M_109 b11 (va_up (fx M b11) 17 ((gnw105 : Nat) : Int)) (va_up (va_up (ax M b11) 44 gpw105) 45 gqw105) → va_P D vwCl ([(za, .inr (13, [.int 0, .ref z1, .int (nI z2), .int (nI z3), .int z4, .int z5, .ref z6, .ref z7, .ref z8, .ref z9, .int (nI z10), .ref z11, .ref z12, .ref z13, .ref z14, .ref z15, .int (nI zgw105), .ref z17, .int z18, .ref z19]))] ++ va_pl L M_109) H_110 → va_D A ([(za, .inr (13, [.int 0, .ref z1, .int (nI z2), .int (nI z3), .int z4, .int z5, .ref z6, .ref z7, .ref z8, .ref z9, .int (nI z10), .ref z11, .ref z12, .ref z13, .ref z14, .ref z15, .int (nI zgw105), .ref z17, .int z18, .ref z19]))] ++ va_pl L M_109) → va_S A s.heap H_110 locs → lv_has ls 8 [(7, .int (nI v7w105)), (6, .int (nI v86)), (5, .int (-1)), (4, .int (nI c_31)), (3, .int 0), (2, .ref b11), (0, .ref za), (1, .int k1)] → W p l e R s m ([.ref za, .int k1] : List Value).toArray below meth c H_110 locs 0 0 Q (F0 m 278 ls []) := by
                                      intro fu_104
                                      induction fu_104 with
                                      | zero => intro v7w105 zgw105 gnw105 gpw105 gqw105 M_109 H_110 locs ls h; exact absurd h (Nat.not_lt_zero _)
                                      | succ fu_104 ih_103 =>
                                        intro v7w105 zgw105 gnw105 gpw105 gqw105 M_109 H_110 locs ls hfu hx_106 hx_107 hx_108 hW hF hG hV hP hD hS hl
                                        refine lv_iload hx hb dX13_close_278 (lv_at hl 0 rfl) ?_
                                        refine lv_aload_n hx hb dX13_close_280 rfl (lv_at hl 5 rfl) ?_
                                        obtain ⟨fs111, hM111, hn111, hl111⟩ := hW.open_12 hb_13
                                        obtain ⟨v112, hv112, hc112⟩ : ∃ v : Nat, fs111[15]? = some (.int (nI v) : Value) ∧ v ≤ 20 := hl111 15 (by decide)
                                        refine pg_getN (D := D) (ci := 12) (v := .int (nI v112)) (C := RX12) (T := TX12) (N := 51) hx hb hg inG12 hown hK hP hb_13.1 hM111 rfl 15 (by decide) (hN.use (Cond.fieldLinkNest RX13 279 RX12 "mends" "I" RX13) 24 rfl rfl) (fun _ h9 => h9) hv112 dX13_close_281 ?_
                                        refine lv_icmp_ge (tgt := 300) hx hb dX13_close_284 (by decide) (fun c_113 => ?_) (fun c_113 => ?_)
                                        · have hz := rfl (a := 0)
                                          have n_114 : v112 ≤ v7w105 := (iLE (a := v112) (b := v7w105) (by omega) (by omega)).mp c_113
                                          refine lv_aload_n hx hb dX13_close_300 rfl (lv_at hl 5 rfl) ?_
                                          refine lv_iload_n hx hb dX13_close_301 rfl (lv_at hl 4 rfl) ?_
                                          refine lv_iload hx hb dX13_close_302 (lv_at hl 3 rfl) ?_
                                          have hPc : va_P D vwCl ([] ++ va_pl L M_109) H_110 := hP.part (cx := []) [] rfl
                                          have hDc : va_D A ([] ++ va_pl L M_109) := hD.part (cx := []) [] (by decide) rfl
                                          have hFc : ∀ q, va_A ([] ++ va_pl L M_109) H_110.size q → A q := pg_free hDc hS hA
                                          refine va_callv (va_runS (As := [.ref b11, .int 0, .int (nI c_31)]) (rest := []) ⟨hx, hb, hml, hown, hg⟩ (r_settled2 l D cy K L M_109 H_110.size b11 0 (nI c_31)  hW hb_13 hV.2.2.2) (va_cwS 3 hg (gS wd_861 wd_862 wd_717 wd_863) rfl rfl rfl (by decide +kernel) ⟨(Nat.le_trans (Nat.le_of_ble_eq_true rfl) hRf), (Nat.le_trans (Nat.le_of_ble_eq_true rfl) hRl)⟩) ⟨PG.blind, fun U hU hW => ⟨rfl, PG.at hPc hK hDc hN hU hW⟩⟩ rfl rfl hl.1 rfl (lv_room (Nat.le_of_ble_eq_true rfl)) dX13_close_304 ⟨(Nat.le_trans (Nat.le_of_ble_eq_true rfl) hRc), (Nat.le_trans (Nat.le_of_ble_eq_true rfl) hRs)⟩) hS (fun q _ h => hFc q h) hFc (fun M_117 t H_115 locs ht hvm hw hB hz1 hk1 hS => ?_)
                                          have hWb := hW
                                          obtain ⟨hW, hF2, hG2, hVP, hp_118⟩ := hw
                                          obtain ⟨hP1, hD1⟩ := hB
                                          rw [ht] at hP1
                                          obtain ⟨hP, hD⟩ := va_joinP (X := [(za, .inr (13, [.int 0, .ref z1, .int (nI z2), .int (nI z3), .int z4, .int z5, .ref z6, .ref z7, .ref z8, .ref z9, .int (nI z10), .ref z11, .ref z12, .ref z13, .ref z14, .ref z15, .int (nI zgw105), .ref z17, .int z18, .ref z19]))]) (cx := []) (wr := [(za, .inr (13, [.int 0, .ref z1, .int (nI z2), .int (nI z3), .int z4, .int z5, .ref z6, .ref z7, .ref z8, .ref z9, .int (nI z10), .ref z11, .ref z12, .ref z13, .ref z14, .ref z15, .int (nI zgw105), .ref z17, .int z18, .ref z19]))]) (rx := []) (pl := va_pl L M_109) (pl1 := va_pl L M_117) hP hD [] [0] rfl rfl (by decide) (by decide) hk1 hFc hP1 hD1
                                          have hP : va_P D vwCl ([(za, .inr (13, [.int 0, .ref z1, .int (nI z2), .int (nI z3), .int z4, .int z5, .ref z6, .ref z7, .ref z8, .ref z9, .int (nI z10), .ref z11, .ref z12, .ref z13, .ref z14, .ref z15, .int (nI zgw105), .ref z17, .int z18, .ref z19]))] ++ va_pl L M_117) H_115 := hP
                                          have hD : va_D A ([(za, .inr (13, [.int 0, .ref z1, .int (nI z2), .int (nI z3), .int z4, .int z5, .ref z6, .ref z7, .ref z8, .ref z9, .int (nI z10), .ref z11, .ref z12, .ref z13, .ref z14, .ref z15, .int (nI zgw105), .ref z17, .int z18, .ref z19]))] ++ va_pl L M_117) := hD
                                          have hF : fr K L [12, 14, 15, 32, 42, 45, 46] M M_117 := hF.tr hF2 (by decide)
                                          have hG : fG K L [1, 7, 8, 13, 14, 15, 16, 17, 18] M M_117 := hG.tr hWb hG2 (by decide)
                                          obtain ⟨n_119, hn14, hV2⟩ := hVP
                                          rw [hV.2.1, hV.2.2.1] at hV2
                                          have hV : VW K L M M_117 b11 (va_up (va_up (fx M b11) 17 ((gnw105 : Nat) : Int)) 14 n_119) (va_up (va_up (ax M b11) 44 gpw105) 45 gqw105) := hV.tr hV2
                                          refine lv_aload_n hx hb dX13_close_307 rfl (lv_at hl 5 rfl) ?_
                                          refine lv_lconst (v := 0) hx hb dX13_close_308 (by decide) ?_
                                          obtain ⟨fs121, hM121, hn121, hl121⟩ := hW.open_12 hb_13
                                          refine pg_putN (D := D) (ci := 12) (v := .long 0) (ty := .long) (C := RX12) (T := TX12) (N := 51) hx hb hg inG12 tyX12 tyX12_ok nmX12 hown hK hP hD hS hb_13.1 hM121 rfl 7 (by decide) (hN.use (Cond.fieldLinkNest RX13 179 RX12 "loose" "J" RX13) 16 rfl rfl) (fun _ h9 => h9) rfl (by decide +kernel) rfl rfl (by rw [hn121]; decide) dX13_close_309 (fun H_120 locs hP hD hS => ?_)
                                          have hs_124 : (fs121.set 7 (.long 0))[7]? = some (.long 0) := List.getElem?_set_self (by rw [hn121]; decide)
                                          have hk_123 := fld12_set (k := 7) (w := .long 0) hl121 (show fld12 K L 7 (fs121.set 7 (.long 0)) from ⟨0, hs_124⟩)
                                          have hn_125 : (fs121.set 7 (.long 0)).length = 51 := by rw [List.length_set]; exact hn121
                                          obtain ⟨M_126, eM_126⟩ : ∃ M1 : Hp, M1 = va_up M_117 b11 (.inr (12, fs121.set 7 (.long 0))) := ⟨_, rfl⟩
                                          have hV : VW K L M M_126 b11 (va_up (va_up (fx M b11) 17 ((gnw105 : Nat) : Int)) 14 n_119) (va_up (va_up (ax M b11) 44 gpw105) 45 gqw105) := by rw [eM_126]; exact hV.put0 hW hb_13 hM121 rfl rfl
                                          have hP : va_P D vwCl ([(za, .inr (13, [.int 0, .ref z1, .int (nI z2), .int (nI z3), .int z4, .int z5, .ref z6, .ref z7, .ref z8, .ref z9, .int (nI z10), .ref z11, .ref z12, .ref z13, .ref z14, .ref z15, .int (nI zgw105), .ref z17, .int z18, .ref z19]))] ++ va_pl L M_126) H_120 := by rw [eM_126]; exact hP
                                          have hD : va_D A ([(za, .inr (13, [.int 0, .ref z1, .int (nI z2), .int (nI z3), .int z4, .int z5, .ref z6, .ref z7, .ref z8, .ref z9, .int (nI z10), .ref z11, .ref z12, .ref z13, .ref z14, .ref z15, .int (nI zgw105), .ref z17, .int z18, .ref z19]))] ++ va_pl L M_126) := by rw [eM_126]; exact hD
                                          have hW : WOM cy K L M_126 := by rw [eM_126]; exact hW.up_12 hb_13 ⟨_, rfl, hn_125, hk_123⟩
                                          have hF : fr K L [12, 14, 15, 32, 42, 45, 46] M M_126 := by rw [eM_126]; exact hF.up hb_13 (by decide)
                                          have hG : fG K L [1, 7, 8, 13, 14, 15, 16, 17, 18] M M_126 := by rw [eM_126]; exact hG.up hM121 (by decide)
                                          have hM_127 : M_126 b11 = .inr (12, fs121.set 7 (.long 0)) := by rw [eM_126]; exact va_up_self _ _ _
                                          refine lv_aload_n hx hb dX13_close_312 rfl (lv_at hl 5 rfl) ?_
                                          refine lv_iconst (v := 0) hx hb dX13_close_313 (by decide) ?_
                                          refine pg_putN (D := D) (ci := 12) (v := .int 0) (ty := .int) (C := RX12) (T := TX12) (N := 51) hx hb hg inG12 tyX12 tyX12_ok nmX12 hown hK hP hD hS hb_13.1 hM_127 rfl 15 (by decide) (hN.use (Cond.fieldLinkNest RX13 279 RX12 "mends" "I" RX13) 24 rfl rfl) (fun _ h9 => h9) rfl (by decide +kernel) rfl rfl (by rw [hn_125]; decide) dX13_close_314 (fun H_128 locs hP hD hS => ?_)
                                          have hs_131 : ((fs121.set 7 (.long 0)).set 15 (.int 0))[15]? = some (.int (nI 0)) := List.getElem?_set_self (by rw [hn_125]; decide)
                                          have hk_130 := fld12_set (k := 15) (w := .int 0) hk_123 (show fld12 K L 15 ((fs121.set 7 (.long 0)).set 15 (.int 0)) from ⟨0, hs_131, by omega⟩)
                                          have hn_132 : ((fs121.set 7 (.long 0)).set 15 (.int 0)).length = 51 := by rw [List.length_set]; exact hn_125
                                          have hv_133 : ((fs121.set 7 (.long 0)).set 15 (.int 0))[7]? = some (.long 0) := by rw [List.getElem?_set_ne (by decide)]; exact hs_124
                                          have hb_134 : 0 ≤ 20 := by omega
                                          obtain ⟨M_135, eM_135⟩ : ∃ M1 : Hp, M1 = va_up M_126 b11 (.inr (12, (fs121.set 7 (.long 0)).set 15 (.int 0))) := ⟨_, rfl⟩
                                          have hV : VW K L M M_135 b11 (va_up (va_up (va_up (fx M b11) 17 ((gnw105 : Nat) : Int)) 14 n_119) 15 (0 : Int)) (va_up (va_up (ax M b11) 44 gpw105) 45 gqw105) := by rw [eM_135]; exact hV.put hW hb_13 hM_127 hn_125 rfl (by decide) rfl (by decide)
                                          have hP : va_P D vwCl ([(za, .inr (13, [.int 0, .ref z1, .int (nI z2), .int (nI z3), .int z4, .int z5, .ref z6, .ref z7, .ref z8, .ref z9, .int (nI z10), .ref z11, .ref z12, .ref z13, .ref z14, .ref z15, .int (nI zgw105), .ref z17, .int z18, .ref z19]))] ++ va_pl L M_135) H_128 := by rw [eM_135]; exact hP
                                          have hD : va_D A ([(za, .inr (13, [.int 0, .ref z1, .int (nI z2), .int (nI z3), .int z4, .int z5, .ref z6, .ref z7, .ref z8, .ref z9, .int (nI z10), .ref z11, .ref z12, .ref z13, .ref z14, .ref z15, .int (nI zgw105), .ref z17, .int z18, .ref z19]))] ++ va_pl L M_135) := by rw [eM_135]; exact hD
                                          have hW : WOM cy K L M_135 := by rw [eM_135]; exact hW.up_12 hb_13 ⟨_, rfl, hn_132, hk_130⟩
                                          have hF : fr K L [12, 14, 15, 32, 42, 45, 46] M M_135 := by rw [eM_135]; exact hF.up hb_13 (by decide)
                                          have hG : fG K L [1, 7, 8, 13, 14, 15, 16, 17, 18] M M_135 := by rw [eM_135]; exact hG.up hM_127 (by decide)
                                          have hM_136 : M_135 b11 = .inr (12, (fs121.set 7 (.long 0)).set 15 (.int 0)) := by rw [eM_135]; exact va_up_self _ _ _
                                          refine lv_aload_n hx hb dX13_close_317 rfl (lv_at hl 5 rfl) ?_
                                          refine lv_iconst (v := 0) hx hb dX13_close_318 (by decide) ?_
                                          refine pg_putN (D := D) (ci := 12) (v := .int 0) (ty := .int) (C := RX12) (T := TX12) (N := 51) hx hb hg inG12 tyX12 tyX12_ok nmX12 hown hK hP hD hS hb_13.1 hM_136 rfl 16 (by decide) (hN.use (Cond.fieldLinkNest RX13 161 RX12 "undone" "I" RX13) 25 rfl rfl) (fun _ h9 => h9) rfl (by decide +kernel) rfl rfl (by rw [hn_132]; decide) dX13_close_319 (fun H_137 locs hP hD hS => ?_)
                                          have hs_140 : (((fs121.set 7 (.long 0)).set 15 (.int 0)).set 16 (.int 0))[16]? = some (.int (nI 0)) := List.getElem?_set_self (by rw [hn_132]; decide)
                                          have hk_139 := fld12_set (k := 16) (w := .int 0) hk_130 (show fld12 K L 16 (((fs121.set 7 (.long 0)).set 15 (.int 0)).set 16 (.int 0)) from ⟨0, hs_140, by omega⟩)
                                          have hn_141 : (((fs121.set 7 (.long 0)).set 15 (.int 0)).set 16 (.int 0)).length = 51 := by rw [List.length_set]; exact hn_132
                                          have hv_142 : (((fs121.set 7 (.long 0)).set 15 (.int 0)).set 16 (.int 0))[7]? = some (.long 0) := by rw [List.getElem?_set_ne (by decide)]; exact hv_133
                                          have hv_143 : (((fs121.set 7 (.long 0)).set 15 (.int 0)).set 16 (.int 0))[15]? = some (.int (nI 0)) := by rw [List.getElem?_set_ne (by decide)]; exact hs_131
                                          have hb_144 : 0 ≤ 60 := by omega
                                          obtain ⟨M_145, eM_145⟩ : ∃ M1 : Hp, M1 = va_up M_135 b11 (.inr (12, ((fs121.set 7 (.long 0)).set 15 (.int 0)).set 16 (.int 0))) := ⟨_, rfl⟩
                                          have hV : VW K L M M_145 b11 (va_up (va_up (va_up (va_up (fx M b11) 17 ((gnw105 : Nat) : Int)) 14 n_119) 15 (0 : Int)) 16 (0 : Int)) (va_up (va_up (ax M b11) 44 gpw105) 45 gqw105) := by rw [eM_145]; exact hV.put hW hb_13 hM_136 hn_132 rfl (by decide) rfl (by decide)
                                          have hP : va_P D vwCl ([(za, .inr (13, [.int 0, .ref z1, .int (nI z2), .int (nI z3), .int z4, .int z5, .ref z6, .ref z7, .ref z8, .ref z9, .int (nI z10), .ref z11, .ref z12, .ref z13, .ref z14, .ref z15, .int (nI zgw105), .ref z17, .int z18, .ref z19]))] ++ va_pl L M_145) H_137 := by rw [eM_145]; exact hP
                                          have hD : va_D A ([(za, .inr (13, [.int 0, .ref z1, .int (nI z2), .int (nI z3), .int z4, .int z5, .ref z6, .ref z7, .ref z8, .ref z9, .int (nI z10), .ref z11, .ref z12, .ref z13, .ref z14, .ref z15, .int (nI zgw105), .ref z17, .int z18, .ref z19]))] ++ va_pl L M_145) := by rw [eM_145]; exact hD
                                          have hW : WOM cy K L M_145 := by rw [eM_145]; exact hW.up_12 hb_13 ⟨_, rfl, hn_141, hk_139⟩
                                          have hF : fr K L [12, 14, 15, 32, 42, 45, 46] M M_145 := by rw [eM_145]; exact hF.up hb_13 (by decide)
                                          have hG : fG K L [1, 7, 8, 13, 14, 15, 16, 17, 18] M M_145 := by rw [eM_145]; exact hG.up hM_136 (by decide)
                                          have hM_146 : M_145 b11 = .inr (12, ((fs121.set 7 (.long 0)).set 15 (.int 0)).set 16 (.int 0)) := by rw [eM_145]; exact va_up_self _ _ _
                                          refine lv_aload_n hx hb dX13_close_322 rfl (lv_at hl 5 rfl) ?_
                                          refine lv_iload hx hb dX13_close_323 (lv_at hl 3 rfl) ?_
                                          refine pg_putN (D := D) (ci := 12) (v := .int (nI c_31)) (ty := .int) (C := RX12) (T := TX12) (N := 51) hx hb hg inG12 tyX12 tyX12_ok nmX12 hown hK hP hD hS hb_13.1 hM_146 rfl 1 (by decide) (hN.use (Cond.fieldLinkNest RX13 80 RX12 "to" "I" RX13) 10 rfl rfl) (fun _ h9 => h9) rfl (by decide +kernel) rfl rfl (by rw [hn_141]; decide) dX13_close_325 (fun H_147 locs hP hD hS => ?_)
                                          have hs_150 : ((((fs121.set 7 (.long 0)).set 15 (.int 0)).set 16 (.int 0)).set 1 (.int (nI c_31)))[1]? = some (.int (nI c_31)) := List.getElem?_set_self (by rw [hn_141]; decide)
                                          have hk_149 := fld12_set (k := 1) (w := .int (nI c_31)) hk_139 (show fld12 K L 1 ((((fs121.set 7 (.long 0)).set 15 (.int 0)).set 16 (.int 0)).set 1 (.int (nI c_31))) from ⟨(nI c_31), hs_150, Or.inr ⟨c_31, by omega, rfl⟩⟩)
                                          have hn_151 : ((((fs121.set 7 (.long 0)).set 15 (.int 0)).set 16 (.int 0)).set 1 (.int (nI c_31))).length = 51 := by rw [List.length_set]; exact hn_141
                                          have hv_152 : ((((fs121.set 7 (.long 0)).set 15 (.int 0)).set 16 (.int 0)).set 1 (.int (nI c_31)))[7]? = some (.long 0) := by rw [List.getElem?_set_ne (by decide)]; exact hv_142
                                          have hv_153 : ((((fs121.set 7 (.long 0)).set 15 (.int 0)).set 16 (.int 0)).set 1 (.int (nI c_31)))[15]? = some (.int (nI 0)) := by rw [List.getElem?_set_ne (by decide)]; exact hv_143
                                          have hv_154 : ((((fs121.set 7 (.long 0)).set 15 (.int 0)).set 16 (.int 0)).set 1 (.int (nI c_31)))[16]? = some (.int (nI 0)) := by rw [List.getElem?_set_ne (by decide)]; exact hs_140
                                          obtain ⟨M_155, eM_155⟩ : ∃ M1 : Hp, M1 = va_up M_145 b11 (.inr (12, (((fs121.set 7 (.long 0)).set 15 (.int 0)).set 16 (.int 0)).set 1 (.int (nI c_31)))) := ⟨_, rfl⟩
                                          have hV : VW K L M M_155 b11 (va_up (va_up (va_up (va_up (va_up (fx M b11) 17 ((gnw105 : Nat) : Int)) 14 n_119) 15 (0 : Int)) 16 (0 : Int)) 1 ((c_31 : Nat) : Int)) (va_up (va_up (ax M b11) 44 gpw105) 45 gqw105) := by rw [eM_155]; exact hV.put hW hb_13 hM_146 hn_141 rfl (by decide) rfl (nI_toInt (by omega))
                                          have hP : va_P D vwCl ([(za, .inr (13, [.int 0, .ref z1, .int (nI z2), .int (nI z3), .int z4, .int z5, .ref z6, .ref z7, .ref z8, .ref z9, .int (nI z10), .ref z11, .ref z12, .ref z13, .ref z14, .ref z15, .int (nI zgw105), .ref z17, .int z18, .ref z19]))] ++ va_pl L M_155) H_147 := by rw [eM_155]; exact hP
                                          have hD : va_D A ([(za, .inr (13, [.int 0, .ref z1, .int (nI z2), .int (nI z3), .int z4, .int z5, .ref z6, .ref z7, .ref z8, .ref z9, .int (nI z10), .ref z11, .ref z12, .ref z13, .ref z14, .ref z15, .int (nI zgw105), .ref z17, .int z18, .ref z19]))] ++ va_pl L M_155) := by rw [eM_155]; exact hD
                                          have hW : WOM cy K L M_155 := by rw [eM_155]; exact hW.up_12 hb_13 ⟨_, rfl, hn_151, hk_149⟩
                                          have hF : fr K L [12, 14, 15, 32, 42, 45, 46] M M_155 := by rw [eM_155]; exact hF.up hb_13 (by decide)
                                          have hG : fG K L [1, 7, 8, 13, 14, 15, 16, 17, 18] M M_155 := by rw [eM_155]; exact hG.up hM_146 (by decide)
                                          have hM_156 : M_155 b11 = .inr (12, (((fs121.set 7 (.long 0)).set 15 (.int 0)).set 16 (.int 0)).set 1 (.int (nI c_31))) := by rw [eM_155]; exact va_up_self _ _ _
                                          refine lv_aload_n hx hb dX13_close_328 rfl (lv_at hl 5 rfl) ?_
                                          refine lv_dup hx hb dX13_close_329 rfl ?_
                                          obtain ⟨v157, hv157, hc157⟩ : ∃ v : Nat, ((((fs121.set 7 (.long 0)).set 15 (.int 0)).set 16 (.int 0)).set 1 (.int (nI c_31)))[13]? = some (.int (nI v) : Value) ∧ v ≤ 12 := hk_149 13 (by decide)
                                          refine pg_getN (D := D) (ci := 12) (v := .int (nI v157)) (C := RX12) (T := TX12) (N := 51) hx hb hg inG12 hown hK hP hb_13.1 hM_156 rfl 13 (by decide) (hN.use (Cond.fieldLinkNest RX13 244 RX12 "closed" "I" RX13) 22 rfl rfl) (fun _ h9 => h9) hv157 dX13_close_330 ?_
                                          have hx13 : (fx M b11 13) = ((v157 : Nat) : Int) := (congrFun hV.2.1 13).symm.trans ((fx_of hM_156 rfl hv157).trans (nI_toInt (by omega)))
                                          refine lv_iconst (v := 1) hx hb dX13_close_333 (by decide) ?_
                                          refine lv_iadd hx hb dX13_close_334 ?_
                                          refine lv_topi (fun f_158 ef_158 => ?_)
                                          obtain rfl : f_158 = (nI (v157 + 1)) := ef_158.trans (nI_add v157 1)
                                          refine pg_putN (D := D) (ci := 12) (v := .int (nI (v157 + 1))) (ty := .int) (C := RX12) (T := TX12) (N := 51) hx hb hg inG12 tyX12 tyX12_ok nmX12 hown hK hP hD hS hb_13.1 hM_156 rfl 13 (by decide) (hN.use (Cond.fieldLinkNest RX13 244 RX12 "closed" "I" RX13) 22 rfl rfl) (fun _ h9 => h9) rfl (by decide +kernel) rfl rfl (by rw [hn_151]; decide) dX13_close_335 (fun H_159 locs hP hD hS => ?_)
                                          have hs_162 : (((((fs121.set 7 (.long 0)).set 15 (.int 0)).set 16 (.int 0)).set 1 (.int (nI c_31))).set 13 (.int (nI (v157 + 1))))[13]? = some (.int (nI (v157 + 1))) := List.getElem?_set_self (by rw [hn_151]; decide)
                                          have hk_161 := fld12_set (k := 13) (w := .int (nI (v157 + 1))) hk_149 (show fld12 K L 13 (((((fs121.set 7 (.long 0)).set 15 (.int 0)).set 16 (.int 0)).set 1 (.int (nI c_31))).set 13 (.int (nI (v157 + 1)))) from ⟨(v157 + 1), hs_162, by omega⟩)
                                          have hn_163 : (((((fs121.set 7 (.long 0)).set 15 (.int 0)).set 16 (.int 0)).set 1 (.int (nI c_31))).set 13 (.int (nI (v157 + 1)))).length = 51 := by rw [List.length_set]; exact hn_151
                                          have hv_164 : (((((fs121.set 7 (.long 0)).set 15 (.int 0)).set 16 (.int 0)).set 1 (.int (nI c_31))).set 13 (.int (nI (v157 + 1))))[7]? = some (.long 0) := by rw [List.getElem?_set_ne (by decide)]; exact hv_152
                                          have hv_165 : (((((fs121.set 7 (.long 0)).set 15 (.int 0)).set 16 (.int 0)).set 1 (.int (nI c_31))).set 13 (.int (nI (v157 + 1))))[15]? = some (.int (nI 0)) := by rw [List.getElem?_set_ne (by decide)]; exact hv_153
                                          have hv_166 : (((((fs121.set 7 (.long 0)).set 15 (.int 0)).set 16 (.int 0)).set 1 (.int (nI c_31))).set 13 (.int (nI (v157 + 1))))[16]? = some (.int (nI 0)) := by rw [List.getElem?_set_ne (by decide)]; exact hv_154
                                          have hv_167 : (((((fs121.set 7 (.long 0)).set 15 (.int 0)).set 16 (.int 0)).set 1 (.int (nI c_31))).set 13 (.int (nI (v157 + 1))))[1]? = some (.int (nI c_31)) := by rw [List.getElem?_set_ne (by decide)]; exact hs_150
                                          have hb_168 : (v157 + 1) ≤ 12 := by omega
                                          obtain ⟨M_169, eM_169⟩ : ∃ M1 : Hp, M1 = va_up M_155 b11 (.inr (12, ((((fs121.set 7 (.long 0)).set 15 (.int 0)).set 16 (.int 0)).set 1 (.int (nI c_31))).set 13 (.int (nI (v157 + 1))))) := ⟨_, rfl⟩
                                          have hx13 : (fx M b11 13) = ((v157 : Nat) : Int) := (congrFun hV.2.1 13).symm.trans ((fx_of hM_156 rfl hv157).trans (nI_toInt (by omega)))
                                          have hV : VW K L M M_169 b11 (va_up (va_up (va_up (va_up (va_up (va_up (fx M b11) 17 ((gnw105 : Nat) : Int)) 14 n_119) 15 (0 : Int)) 16 (0 : Int)) 1 ((c_31 : Nat) : Int)) 13 (((v157 + 1) : Nat) : Int)) (va_up (va_up (ax M b11) 44 gpw105) 45 gqw105) := by rw [eM_169]; exact hV.put hW hb_13 hM_156 hn_151 rfl (by decide) rfl (nI_toInt (by omega))
                                          have hP : va_P D vwCl ([(za, .inr (13, [.int 0, .ref z1, .int (nI z2), .int (nI z3), .int z4, .int z5, .ref z6, .ref z7, .ref z8, .ref z9, .int (nI z10), .ref z11, .ref z12, .ref z13, .ref z14, .ref z15, .int (nI zgw105), .ref z17, .int z18, .ref z19]))] ++ va_pl L M_169) H_159 := by rw [eM_169]; exact hP
                                          have hD : va_D A ([(za, .inr (13, [.int 0, .ref z1, .int (nI z2), .int (nI z3), .int z4, .int z5, .ref z6, .ref z7, .ref z8, .ref z9, .int (nI z10), .ref z11, .ref z12, .ref z13, .ref z14, .ref z15, .int (nI zgw105), .ref z17, .int z18, .ref z19]))] ++ va_pl L M_169) := by rw [eM_169]; exact hD
                                          have hW : WOM cy K L M_169 := by rw [eM_169]; exact hW.up_12 hb_13 ⟨_, rfl, hn_163, hk_161⟩
                                          have hF : fr K L [12, 14, 15, 32, 42, 45, 46] M M_169 := by rw [eM_169]; exact hF.up hb_13 (by decide)
                                          have hG : fG K L [1, 7, 8, 13, 14, 15, 16, 17, 18] M M_169 := by rw [eM_169]; exact hG.up hM_156 (by decide)
                                          have hM_170 : M_169 b11 = .inr (12, ((((fs121.set 7 (.long 0)).set 15 (.int 0)).set 16 (.int 0)).set 1 (.int (nI c_31))).set 13 (.int (nI (v157 + 1)))) := by rw [eM_169]; exact va_up_self _ _ _
                                          refine lv_aload_n hx hb dX13_close_338 rfl (lv_at hl 5 rfl) ?_
                                          refine lv_iconst (v := 1) hx hb dX13_close_339 (by decide) ?_
                                          refine pg_putN (D := D) (ci := 12) (v := .int 1) (ty := .boolean) (C := RX12) (T := TX12) (N := 51) hx hb hg inG12 tyX12 tyX12_ok nmX12 hown hK hP hD hS hb_13.1 hM_170 rfl 18 (by decide) (hN.use (Cond.fieldLinkNest RX13 288 RX12 "hasClosed" "Z" RX13) 27 rfl rfl) (fun _ h9 => h9) rfl (by decide +kernel) rfl rfl (by rw [hn_163]; decide) dX13_close_340 (fun H_171 locs hP hD hS => ?_)
                                          have hs_174 : ((((((fs121.set 7 (.long 0)).set 15 (.int 0)).set 16 (.int 0)).set 1 (.int (nI c_31))).set 13 (.int (nI (v157 + 1)))).set 18 (.int 1))[18]? = some (.int 1) := List.getElem?_set_self (by rw [hn_163]; decide)
                                          have hk_173 := fld12_set (k := 18) (w := .int 1) hk_161 (show fld12 K L 18 ((((((fs121.set 7 (.long 0)).set 15 (.int 0)).set 16 (.int 0)).set 1 (.int (nI c_31))).set 13 (.int (nI (v157 + 1)))).set 18 (.int 1)) from ⟨1, hs_174, by decide⟩)
                                          have hn_175 : ((((((fs121.set 7 (.long 0)).set 15 (.int 0)).set 16 (.int 0)).set 1 (.int (nI c_31))).set 13 (.int (nI (v157 + 1)))).set 18 (.int 1)).length = 51 := by rw [List.length_set]; exact hn_163
                                          have hv_176 : ((((((fs121.set 7 (.long 0)).set 15 (.int 0)).set 16 (.int 0)).set 1 (.int (nI c_31))).set 13 (.int (nI (v157 + 1)))).set 18 (.int 1))[7]? = some (.long 0) := by rw [List.getElem?_set_ne (by decide)]; exact hv_164
                                          have hv_177 : ((((((fs121.set 7 (.long 0)).set 15 (.int 0)).set 16 (.int 0)).set 1 (.int (nI c_31))).set 13 (.int (nI (v157 + 1)))).set 18 (.int 1))[15]? = some (.int (nI 0)) := by rw [List.getElem?_set_ne (by decide)]; exact hv_165
                                          have hv_178 : ((((((fs121.set 7 (.long 0)).set 15 (.int 0)).set 16 (.int 0)).set 1 (.int (nI c_31))).set 13 (.int (nI (v157 + 1)))).set 18 (.int 1))[16]? = some (.int (nI 0)) := by rw [List.getElem?_set_ne (by decide)]; exact hv_166
                                          have hv_179 : ((((((fs121.set 7 (.long 0)).set 15 (.int 0)).set 16 (.int 0)).set 1 (.int (nI c_31))).set 13 (.int (nI (v157 + 1)))).set 18 (.int 1))[1]? = some (.int (nI c_31)) := by rw [List.getElem?_set_ne (by decide)]; exact hv_167
                                          have hv_180 : ((((((fs121.set 7 (.long 0)).set 15 (.int 0)).set 16 (.int 0)).set 1 (.int (nI c_31))).set 13 (.int (nI (v157 + 1)))).set 18 (.int 1))[13]? = some (.int (nI (v157 + 1))) := by rw [List.getElem?_set_ne (by decide)]; exact hs_162
                                          obtain ⟨M_181, eM_181⟩ : ∃ M1 : Hp, M1 = va_up M_169 b11 (.inr (12, (((((fs121.set 7 (.long 0)).set 15 (.int 0)).set 16 (.int 0)).set 1 (.int (nI c_31))).set 13 (.int (nI (v157 + 1)))).set 18 (.int 1))) := ⟨_, rfl⟩
                                          have hV : VW K L M M_181 b11 (va_up (va_up (va_up (va_up (va_up (va_up (fx M b11) 17 ((gnw105 : Nat) : Int)) 14 n_119) 15 (0 : Int)) 16 (0 : Int)) 1 ((c_31 : Nat) : Int)) 13 (((v157 + 1) : Nat) : Int)) (va_up (va_up (ax M b11) 44 gpw105) 45 gqw105) := by rw [eM_181]; exact hV.put0 hW hb_13 hM_170 rfl rfl
                                          have hP : va_P D vwCl ([(za, .inr (13, [.int 0, .ref z1, .int (nI z2), .int (nI z3), .int z4, .int z5, .ref z6, .ref z7, .ref z8, .ref z9, .int (nI z10), .ref z11, .ref z12, .ref z13, .ref z14, .ref z15, .int (nI zgw105), .ref z17, .int z18, .ref z19]))] ++ va_pl L M_181) H_171 := by rw [eM_181]; exact hP
                                          have hD : va_D A ([(za, .inr (13, [.int 0, .ref z1, .int (nI z2), .int (nI z3), .int z4, .int z5, .ref z6, .ref z7, .ref z8, .ref z9, .int (nI z10), .ref z11, .ref z12, .ref z13, .ref z14, .ref z15, .int (nI zgw105), .ref z17, .int z18, .ref z19]))] ++ va_pl L M_181) := by rw [eM_181]; exact hD
                                          have hW : WOM cy K L M_181 := by rw [eM_181]; exact hW.up_12 hb_13 ⟨_, rfl, hn_175, hk_173⟩
                                          have hF : fr K L [12, 14, 15, 32, 42, 45, 46] M M_181 := by rw [eM_181]; exact hF.up hb_13 (by decide)
                                          have hG : fG K L [1, 7, 8, 13, 14, 15, 16, 17, 18] M M_181 := by rw [eM_181]; exact hG.up hM_170 (by decide)
                                          have hM_182 : M_181 b11 = .inr (12, (((((fs121.set 7 (.long 0)).set 15 (.int 0)).set 16 (.int 0)).set 1 (.int (nI c_31))).set 13 (.int (nI (v157 + 1)))).set 18 (.int 1)) := by rw [eM_181]; exact va_up_self _ _ _
                                          refine lv_aload_n hx hb dX13_close_343 rfl (lv_at hl 6 rfl) ?_
                                          refine lv_aload_n hx hb dX13_close_344 rfl (lv_at hl 5 rfl) ?_
                                          refine lv_iload hx hb dX13_close_345 (lv_at hl 3 rfl) ?_
                                          have hPc : va_P D vwCl ([(za, .inr (13, [.int 0, .ref z1, .int (nI z2), .int (nI z3), .int z4, .int z5, .ref z6, .ref z7, .ref z8, .ref z9, .int (nI z10), .ref z11, .ref z12, .ref z13, .ref z14, .ref z15, .int (nI zgw105), .ref z17, .int z18, .ref z19]))] ++ va_pl L M_181) H_171 := hP
                                          have hDc : va_D A ([(za, .inr (13, [.int 0, .ref z1, .int (nI z2), .int (nI z3), .int z4, .int z5, .ref z6, .ref z7, .ref z8, .ref z9, .int (nI z10), .ref z11, .ref z12, .ref z13, .ref z14, .ref z15, .int (nI zgw105), .ref z17, .int z18, .ref z19]))] ++ va_pl L M_181) := hD
                                          have hFc : ∀ q, va_A ([(za, .inr (13, [.int 0, .ref z1, .int (nI z2), .int (nI z3), .int z4, .int z5, .ref z6, .ref z7, .ref z8, .ref z9, .int (nI z10), .ref z11, .ref z12, .ref z13, .ref z14, .ref z15, .int (nI zgw105), .ref z17, .int z18, .ref z19]))] ++ va_pl L M_181) H_171.size q → A q := pg_free hDc hS hA
                                          refine va_callv (va_runV (As := [.ref b11, .int (nI c_31)]) (rest := []) ⟨hx, hb, hml, hown, hg⟩ (g_X13_incomes l D cy K L M_181 H_171.size za 0 z1 z2 z3 z4 z5 z6 z7 z8 z9 z10 z11 z12 z13 z14 z15 zgw105 z17 z18 z19 b11 c_31  hW i1 b2 b3 i6 i7 i8 i9 b10 i11 i12 i13 i14 i15 (by omega) i17 i19 hb_13 hc_32 (R5.mv hR5 i6 i7 hF (by decide) (by decide))) (cwV 2 hg (gV wd_864 wd_865 wd_866 wd_717 wd_867) rfl rfl rfl (by decide +kernel) ⟨(Nat.le_trans (Nat.le_of_ble_eq_true rfl) hRf), (Nat.le_trans (Nat.le_of_ble_eq_true rfl) hRl)⟩) ⟨PG.blind, va_recv hK hP (ci := 13) (q0 := 0) rfl rfl, fun U hU hW => ⟨rfl, PG.at hPc hK hDc hN hU hW⟩⟩ rfl rfl hl.1 rfl (lv_room (Nat.le_of_ble_eq_true rfl)) dX13_close_347 ⟨(Nat.le_trans (Nat.le_of_ble_eq_true rfl) hRc), (Nat.le_trans (Nat.le_of_ble_eq_true rfl) hRs)⟩) hS (fun q _ h => hFc q h) hFc (fun M_185 t H_183 locs ht hvm hw hB hz1 hk1 hS => ?_)
                                          have hWb := hW
                                          obtain ⟨hW, hF2, hG2, hp_186⟩ := hw
                                          obtain ⟨hP1, hD1⟩ := hB
                                          rw [ht] at hP1
                                          have hP : va_P D vwCl ([(za, .inr (13, [.int 0, .ref z1, .int (nI z2), .int (nI z3), .int z4, .int z5, .ref z6, .ref z7, .ref z8, .ref z9, .int (nI z10), .ref z11, .ref z12, .ref z13, .ref z14, .ref z15, .int (nI zgw105), .ref z17, .int z18, .ref z19]))] ++ va_pl L M_185) H_183 := hP1
                                          have hD : va_D A ([(za, .inr (13, [.int 0, .ref z1, .int (nI z2), .int (nI z3), .int z4, .int z5, .ref z6, .ref z7, .ref z8, .ref z9, .int (nI z10), .ref z11, .ref z12, .ref z13, .ref z14, .ref z15, .int (nI zgw105), .ref z17, .int z18, .ref z19]))] ++ va_pl L M_185) := hD1.mono hFc
                                          have hF : fr K L [12, 14, 15, 32, 42, 45, 46] M M_185 := hF.tr hF2 (by decide)
                                          have hG : fG K L [1, 7, 8, 13, 14, 15, 16, 17, 18] M M_185 := hG.tr hWb hG2 (by decide)
                                          have hV : VW K L M M_185 b11 (va_up (va_up (va_up (va_up (va_up (va_up (fx M b11) 17 ((gnw105 : Nat) : Int)) 14 n_119) 15 (0 : Int)) 16 (0 : Int)) 1 ((c_31 : Nat) : Int)) 13 (((v157 + 1) : Nat) : Int)) (va_up (va_up (ax M b11) 44 gpw105) 45 gqw105) := hV.cal hWb hW hF2 hG2 (by decide) (by decide) hb_13
                                          refine lv_aload_n hx hb dX13_close_350 rfl (lv_at hl 5 rfl) ?_
                                          refine lv_iload hx hb dX13_close_351 (lv_at hl 3 rfl) ?_
                                          have hPc : va_P D vwCl ([] ++ va_pl L M_185) H_183 := hP.part (cx := []) [] rfl
                                          have hDc : va_D A ([] ++ va_pl L M_185) := hD.part (cx := []) [] (by decide) rfl
                                          have hFc : ∀ q, va_A ([] ++ va_pl L M_185) H_183.size q → A q := pg_free hDc hS hA
                                          refine va_callv (va_runS (As := [.ref b11, .int (nI c_31)]) (rest := []) ⟨hx, hb, hml, hown, hg⟩ (g_X13_ends l D cy K L M_185 H_183.size b11 (nI c_31)  hW hb_13 hV.2.2.2 (by rw [hV.2.1, hV.2.2.1]; exact hAT.2.2.1)) (va_cwS 2 hg (gS wd_868 wd_869 wd_717 wd_870) rfl rfl rfl (by decide +kernel) ⟨(Nat.le_trans (Nat.le_of_ble_eq_true rfl) hRf), (Nat.le_trans (Nat.le_of_ble_eq_true rfl) hRl)⟩) ⟨PG.blind, fun U hU hW => ⟨rfl, PG.at hPc hK hDc hN hU hW⟩⟩ rfl rfl hl.1 rfl (lv_room (Nat.le_of_ble_eq_true rfl)) dX13_close_353 ⟨(Nat.le_trans (Nat.le_of_ble_eq_true rfl) hRc), (Nat.le_trans (Nat.le_of_ble_eq_true rfl) hRs)⟩) hS (fun q _ h => hFc q h) hFc (fun M_189 t H_187 locs ht hvm hw hB hz1 hk1 hS => ?_)
                                          have hWb := hW
                                          obtain ⟨hW, hF2, hG2, hVP, hp_190⟩ := hw
                                          obtain ⟨hP1, hD1⟩ := hB
                                          rw [ht] at hP1
                                          obtain ⟨hP, hD⟩ := va_joinP (X := [(za, .inr (13, [.int 0, .ref z1, .int (nI z2), .int (nI z3), .int z4, .int z5, .ref z6, .ref z7, .ref z8, .ref z9, .int (nI z10), .ref z11, .ref z12, .ref z13, .ref z14, .ref z15, .int (nI zgw105), .ref z17, .int z18, .ref z19]))]) (cx := []) (wr := [(za, .inr (13, [.int 0, .ref z1, .int (nI z2), .int (nI z3), .int z4, .int z5, .ref z6, .ref z7, .ref z8, .ref z9, .int (nI z10), .ref z11, .ref z12, .ref z13, .ref z14, .ref z15, .int (nI zgw105), .ref z17, .int z18, .ref z19]))]) (rx := []) (pl := va_pl L M_185) (pl1 := va_pl L M_189) hP hD [] [0] rfl rfl (by decide) (by decide) hk1 hFc hP1 hD1
                                          have hP : va_P D vwCl ([(za, .inr (13, [.int 0, .ref z1, .int (nI z2), .int (nI z3), .int z4, .int z5, .ref z6, .ref z7, .ref z8, .ref z9, .int (nI z10), .ref z11, .ref z12, .ref z13, .ref z14, .ref z15, .int (nI zgw105), .ref z17, .int z18, .ref z19]))] ++ va_pl L M_189) H_187 := hP
                                          have hD : va_D A ([(za, .inr (13, [.int 0, .ref z1, .int (nI z2), .int (nI z3), .int z4, .int z5, .ref z6, .ref z7, .ref z8, .ref z9, .int (nI z10), .ref z11, .ref z12, .ref z13, .ref z14, .ref z15, .int (nI zgw105), .ref z17, .int z18, .ref z19]))] ++ va_pl L M_189) := hD
                                          have hF : fr K L [12, 14, 15, 32, 42, 45, 46] M M_189 := hF.tr hF2 (by decide)
                                          have hG : fG K L [1, 7, 8, 13, 14, 15, 16, 17, 18] M M_189 := hG.tr hWb hG2 (by decide)
                                          obtain ⟨g_191, hg9, hV2⟩ := hVP
                                          rw [hV.2.2.1] at hg9
                                          rw [hV.2.1, hV.2.2.1] at hV2
                                          have hg9 : ∀ k : Nat, k < 24 → 1 ≤ ((ax M b11 23) k).toInt → 1 ≤ (g_191 k).toInt := hg9
                                          have hV : VW K L M M_189 b11 (va_up (va_up (va_up (va_up (va_up (va_up (fx M b11) 17 ((gnw105 : Nat) : Int)) 14 n_119) 15 (0 : Int)) 16 (0 : Int)) 1 ((c_31 : Nat) : Int)) 13 (((v157 + 1) : Nat) : Int)) (va_up (va_up (va_up (ax M b11) 44 gpw105) 45 gqw105) 23 g_191) := hV.tr hV2
                                          refine lv_aload_n hx hb dX13_close_356 rfl (lv_at hl 6 rfl) ?_
                                          refine lv_aload_n hx hb dX13_close_357 rfl (lv_at hl 5 rfl) ?_
                                          obtain ⟨fs192, hM192, hn192, hl192⟩ := hW.open_12 hb_13
                                          obtain ⟨v193, hv193, hc193⟩ : ∃ v : Nat, fs192[13]? = some (.int (nI v) : Value) ∧ v ≤ 12 := hl192 13 (by decide)
                                          refine pg_getN (D := D) (ci := 12) (v := .int (nI v193)) (C := RX12) (T := TX12) (N := 51) hx hb hg inG12 hown hK hP hb_13.1 hM192 rfl 13 (by decide) (hN.use (Cond.fieldLinkNest RX13 244 RX12 "closed" "I" RX13) 22 rfl rfl) (fun _ h9 => h9) hv193 dX13_close_358 ?_
                                          have hx13 : (((v157 + 1) : Nat) : Int) = ((v193 : Nat) : Int) := (congrFun hV.2.1 13).symm.trans ((fx_of hM192 rfl hv193).trans (nI_toInt (by omega)))
                                          refine lv_iconst (v := 1) hx hb dX13_close_361 (by decide) ?_
                                          refine lv_isub hx hb dX13_close_362 ?_
                                          refine lv_topi (fun f_194 ef_194 => ?_)
                                          obtain rfl : f_194 = (nI (v193 - 1)) := ef_194.trans (nI_prd (by omega))
                                          have hPc := hP.sub (ws' := [(za, .inr (13, [.int 0, .ref z1, .int (nI z2), .int (nI z3), .int z4, .int z5, .ref z6, .ref z7, .ref z8, .ref z9, .int (nI z10), .ref z11, .ref z12, .ref z13, .ref z14, .ref z15, .int (nI zgw105), .ref z17, .int z18, .ref z19]))]) [0] rfl
                                          have hDc := hD.sub (ws' := [(za, .inr (13, [.int 0, .ref z1, .int (nI z2), .int (nI z3), .int z4, .int z5, .ref z6, .ref z7, .ref z8, .ref z9, .int (nI z10), .ref z11, .ref z12, .ref z13, .ref z14, .ref z15, .int (nI zgw105), .ref z17, .int z18, .ref z19]))]) [0] (by decide) rfl
                                          have hKc := hK.sub (tys' := []) [] rfl
                                          have hFc := va_free (wc := [(za, .inr (13, [.int 0, .ref z1, .int (nI z2), .int (nI z3), .int z4, .int z5, .ref z6, .ref z7, .ref z8, .ref z9, .int (nI z10), .ref z11, .ref z12, .ref z13, .ref z14, .ref z15, .int (nI zgw105), .ref z17, .int z18, .ref z19]))]) hD hS hA [0] rfl
                                          refine va_calli (va_runV (As := [.int (nI (v193 - 1))]) (rest := []) ⟨hx, hb, hml, hown, hg⟩ (m_done l D H_187.size za 0 z1 (nI z2) (nI z3) z4 z5 z6 z7 z8 z9 (nI z10) z11 z12 z13 z14 z15 (nI zgw105) z17 z18 z19 (nI (v193 - 1))) (cwV 1 hg (gV wd_730 wd_731 wd_732 wd_717 wd_733) rfl rfl rfl (by decide +kernel) ⟨(Nat.le_trans (Nat.le_of_ble_eq_true rfl) hRf), (Nat.le_trans (Nat.le_of_ble_eq_true rfl) hRl)⟩) ⟨Pr.blind, va_recv hK hP (ci := 13) (q0 := 0) rfl rfl, fun U hU hW => ⟨rfl, Pr.at hPc hKc hDc hN hU hW⟩⟩ rfl rfl hl.1 rfl (lv_room (Nat.le_of_ble_eq_true rfl)) dX13_close_363 ⟨(Nat.le_trans (Nat.le_of_ble_eq_true rfl) hRc), (Nat.le_trans (Nat.le_of_ble_eq_true rfl) hRs)⟩) hS (fun q _ h => hFc q h) hFc (fun r_196 M_197 t H_195 locs ht hvm hw hB hz1 hk1 hS => ?_)
                                          have hp_198 := hw
                                          obtain ⟨hP1, hK1, hD1⟩ := hB
                                          rw [ht] at hP1
                                          obtain ⟨hP, hD⟩ := va_joinQ (X := [(za, .inr (13, [.int 0, .ref z1, .int (nI z2), .int (nI z3), .int z4, .int z5, .ref z6, .ref z7, .ref z8, .ref z9, .int (nI z10), .ref z11, .ref z12, .ref z13, .ref z14, .ref z15, .int (nI zgw105), .ref z17, .int z18, .ref z19]))]) (cx := [(za, .inr (13, [.int 0, .ref z1, .int (nI z2), .int (nI z3), .int z4, .int z5, .ref z6, .ref z7, .ref z8, .ref z9, .int (nI z10), .ref z11, .ref z12, .ref z13, .ref z14, .ref z15, .int (nI zgw105), .ref z17, .int z18, .ref z19]))]) (wr := []) (w1 := [(za, .inr (13, [.int 0, .ref z1, .int (nI z2), .int (nI z3), .int 0, .int (-1), .ref z6, .ref z7, .ref z8, .ref z9, .int (nI z10), .ref z11, .ref z12, .ref z13, .ref z14, .ref z15, .int (nI zgw105), .ref z17, .int z18, .ref z19]))]) (pl := va_pl L M_189) hP hD [0] [] rfl rfl (by decide) (by decide) hk1 hFc hP1 hD1
                                          have hP : va_P D vwCl ([(za, .inr (13, [.int 0, .ref z1, .int (nI z2), .int (nI z3), .int 0, .int (-1), .ref z6, .ref z7, .ref z8, .ref z9, .int (nI z10), .ref z11, .ref z12, .ref z13, .ref z14, .ref z15, .int (nI zgw105), .ref z17, .int z18, .ref z19]))] ++ va_pl L M_189) H_195 := hP
                                          have hD : va_D A ([(za, .inr (13, [.int 0, .ref z1, .int (nI z2), .int (nI z3), .int 0, .int (-1), .ref z6, .ref z7, .ref z8, .ref z9, .int (nI z10), .ref z11, .ref z12, .ref z13, .ref z14, .ref z15, .int (nI zgw105), .ref z17, .int z18, .ref z19]))] ++ va_pl L M_189) := hD
                                          have hq := Eq.symm hp_198
                                          subst hq
                                          have hA9 : HA (ax M b11 2) (ax M b11 3) := hAT.1
                                          have hB9 : HB (0 : Int) n_119 (ax M b11 3) (ax M b11 43) := HB.zero hAT.2.1.nn.1 hn14
                                          have hC9 : HC (fx M b11 10) (ax M b11 22) g_191 := HC.gr hAT.2.2.1 hg9
                                          have hD9 : HD (fx M b11 0) (fx M b11 11) (0 : Int) (ax M b11 34) (ax M b11 41) := HD.clr hAT.2.2.2.1
                                          have hE9 : HE (fx M b11 0) ((c_31 : Nat) : Int) (fx M b11 12) (((v157 + 1) : Nat) : Int) (ax M b11 37) := HE.close hAT.2.2.2.2 hb13 (by omega) (by omega) (by rw [hT37])
                                          have hH9 : HI (va_up (va_up (va_up (va_up (va_up (va_up (fx M b11) 17 ((gnw105 : Nat) : Int)) 14 n_119) 15 (0 : Int)) 16 (0 : Int)) 1 ((c_31 : Nat) : Int)) 13 (((v157 + 1) : Nat) : Int)) (va_up (va_up (va_up (ax M b11) 44 gpw105) 45 gqw105) 23 g_191) := ⟨hA9, hB9, hC9, hD9, hE9⟩
                                          have hGI9 : GI K L z1 z2 M_189 := GI.fin hW0 i1 b2 hGI hact hV (hF.at i1 (by decide)) hH9
                                          rw [hQ]
                                          exact W.iret (v := (nI (v193 - 1))) hx hb hr (fun t ht hW9 => ⟨⟨(nI (v193 - 1)), M_189, rfl, ⟨hW, hF, hG, hGI9, trivial⟩, ⟨0, (-1), zgw105, (by omega), by rw [ht]; exact hP, hD⟩⟩, hS.F ht⟩) hS.2.2 dX13_close_366
                                        · have hz := rfl (a := 0)
                                          have n_199 : ¬ (v112 ≤ v7w105) := fun q => c_113 ((iLE (a := v112) (b := v7w105) (by omega) (by omega)).mpr q)
                                          obtain ⟨v200, hv200, hc200⟩ : ∃ v : Nat, fs111[17]? = some (.int (nI v) : Value) ∧ v ≤ 120 := hl111 17 (by decide)
                                          have hx17 : ((gnw105 : Nat) : Int) = ((v200 : Nat) : Int) := (congrFun hV.2.1 17).symm.trans ((fx_of hM111 rfl hv200).trans (nI_toInt (by omega)))
                                          have hx15 : (fx M b11 15) = ((v112 : Nat) : Int) := (congrFun hV.2.1 15).symm.trans ((fx_of hM111 rfl hv112).trans (nI_toInt (by omega)))
                                          refine lv_aload_n hx hb dX13_close_287 rfl (lv_at hl 6 rfl) ?_
                                          refine lv_aload_n hx hb dX13_close_288 rfl (lv_at hl 5 rfl) ?_
                                          refine lv_iload hx hb dX13_close_289 (lv_at hl 0 rfl) ?_
                                          have hPc : va_P D vwCl ([(za, .inr (13, [.int 0, .ref z1, .int (nI z2), .int (nI z3), .int z4, .int z5, .ref z6, .ref z7, .ref z8, .ref z9, .int (nI z10), .ref z11, .ref z12, .ref z13, .ref z14, .ref z15, .int (nI zgw105), .ref z17, .int z18, .ref z19]))] ++ va_pl L M_109) H_110 := hP
                                          have hDc : va_D A ([(za, .inr (13, [.int 0, .ref z1, .int (nI z2), .int (nI z3), .int z4, .int z5, .ref z6, .ref z7, .ref z8, .ref z9, .int (nI z10), .ref z11, .ref z12, .ref z13, .ref z14, .ref z15, .int (nI zgw105), .ref z17, .int z18, .ref z19]))] ++ va_pl L M_109) := hD
                                          have hFc : ∀ q, va_A ([(za, .inr (13, [.int 0, .ref z1, .int (nI z2), .int (nI z3), .int z4, .int z5, .ref z6, .ref z7, .ref z8, .ref z9, .int (nI z10), .ref z11, .ref z12, .ref z13, .ref z14, .ref z15, .int (nI zgw105), .ref z17, .int z18, .ref z19]))] ++ va_pl L M_109) H_110.size q → A q := pg_free hDc hS hA
                                          refine va_callv (va_runV (As := [.ref b11, .int (nI v7w105)]) (rest := []) ⟨hx, hb, hml, hown, hg⟩ (g_X13_mended l D cy K L M_109 H_110.size za 0 z1 z2 z3 z4 z5 z6 z7 z8 z9 z10 z11 z12 z13 z14 z15 zgw105 z17 z18 z19 b11 v7w105  hW i1 b2 b3 i6 i7 i8 i9 b10 i11 i12 i13 i14 i15 (by omega) i17 i19 hb_13 (by omega) hV.2.2.2 ⟨_, _, hM111, hv200, by omega⟩ (by rw [hV.2.1]; exact h11) (by rw [hV.2.1, hV.2.2.1]; exact hAT.2.2.2.1) (by rw [hV.2.1]; show ((v7w105 : Nat) : Int) < fx M b11 15; omega)) (cwV 2 hg (gV wd_871 wd_872 wd_873 wd_717 wd_874) rfl rfl rfl (by decide +kernel) ⟨(Nat.le_trans (Nat.le_of_ble_eq_true rfl) hRf), (Nat.le_trans (Nat.le_of_ble_eq_true rfl) hRl)⟩) ⟨PG.blind, va_recv hK hP (ci := 13) (q0 := 0) rfl rfl, fun U hU hW => ⟨rfl, PG.at hPc hK hDc hN hU hW⟩⟩ rfl rfl hl.1 rfl (lv_room (Nat.le_of_ble_eq_true rfl)) dX13_close_291 ⟨(Nat.le_trans (Nat.le_of_ble_eq_true rfl) hRc), (Nat.le_trans (Nat.le_of_ble_eq_true rfl) hRs)⟩) hS (fun q _ h => hFc q h) hFc (fun M_203 t H_201 locs ht hvm hw hB hz1 hk1 hS => ?_)
                                          have hWb := hW
                                          obtain ⟨hW, hF2, hG2, hVP, hp_204⟩ := hw
                                          obtain ⟨w16_205, hg_206, hP1, hD1⟩ := hB
                                          rw [ht] at hP1
                                          have hP : va_P D vwCl ([(za, .inr (13, [.int 0, .ref z1, .int (nI z2), .int (nI z3), .int z4, .int z5, .ref z6, .ref z7, .ref z8, .ref z9, .int (nI z10), .ref z11, .ref z12, .ref z13, .ref z14, .ref z15, .int (nI w16_205), .ref z17, .int z18, .ref z19]))] ++ va_pl L M_203) H_201 := hP1
                                          have hD : va_D A ([(za, .inr (13, [.int 0, .ref z1, .int (nI z2), .int (nI z3), .int z4, .int z5, .ref z6, .ref z7, .ref z8, .ref z9, .int (nI z10), .ref z11, .ref z12, .ref z13, .ref z14, .ref z15, .int (nI w16_205), .ref z17, .int z18, .ref z19]))] ++ va_pl L M_203) := hD1.mono hFc
                                          have hF : fr K L [12, 14, 15, 32, 42, 45, 46] M M_203 := hF.tr hF2 (by decide)
                                          have hG : fG K L [1, 7, 8, 13, 14, 15, 16, 17, 18] M M_203 := hG.tr hWb hG2 (by decide)
                                          obtain ⟨n_207, g_208, g_209, hn17, hV2⟩ := hVP
                                          rw [hV.2.1] at hn17
                                          rw [hV.2.1, hV.2.2.1] at hV2
                                          have hn17 : ((gnw105 : Nat) : Int) = (n_207 : Int) := hn17
                                          have hV : VW K L M M_203 b11 (va_up (va_up (fx M b11) 17 ((gnw105 : Nat) : Int)) 17 ((n_207 + 1 : Nat) : Int)) (va_up (va_up (va_up (va_up (ax M b11) 44 gpw105) 45 gqw105) 44 g_208) 45 g_209) := hV.tr hV2
                                          refine lv_iinc (v := (nI (v7w105 + 1))) (lv' := [(7, .int (nI (v7w105 + 1))), (6, .int (nI v86)), (5, .int (-1)), (4, .int (nI c_31)), (3, .int 0), (2, .ref b11), (0, .ref za), (1, .int k1)]) hx hb dX13_close_294 hl (k := 0) rfl (nI_1 v7w105) (by decide) rfl (fun ls hl => ?_)
                                          refine lv_goto (tgt := 278) hx hb dX13_close_297 (by decide) ?_
                                          exact ih_103 (v7w105 + 1) w16_205 (n_207 + 1) g_208 g_209 M_203 H_201 _ _ (by omega) (by omega) (by omega) (by omega) hW hF hG (by have h := hV; simp only [va_up_up] at h; rw [va_up_4] at h; exact h) hP hD hS (lv_sub hl [0, 1, 2, 3, 4, 5, 6, 7] rfl)
                                    exact key_102 (24 - 0 + 1) 0 zgw95 gnw78 gpw78 gqw78 M_98 H_99 _ _ (by omega) (by omega) (by omega) (by omega) hW hF hG hV hP hD hS (lv_sub hl [0, 1, 2, 3, 4, 5, 6, 7] rfl)
                                  · have hz := rfl (a := 0)
                                    have n_210 : ¬ (v86 ≤ v7w95) := fun q => c_100 ((iLE (a := v86) (b := v7w95) (by omega) (by omega)).mpr q)
                                    refine lv_aload_n hx hb dX13_close_261 rfl (lv_at hl 6 rfl) ?_
                                    refine lv_aload_n hx hb dX13_close_262 rfl (lv_at hl 5 rfl) ?_
                                    refine lv_iload hx hb dX13_close_263 (lv_at hl 0 rfl) ?_
                                    refine lv_iload_n hx hb dX13_close_265 rfl (lv_at hl 4 rfl) ?_
                                    have hPc : va_P D vwCl ([(za, .inr (13, [.int 0, .ref z1, .int (nI z2), .int (nI z3), .int z4, .int z5, .ref z6, .ref z7, .ref z8, .ref z9, .int (nI z10), .ref z11, .ref z12, .ref z13, .ref z14, .ref z15, .int (nI zgw95), .ref z17, .int z18, .ref z19]))] ++ va_pl L M_98) H_99 := hP
                                    have hDc : va_D A ([(za, .inr (13, [.int 0, .ref z1, .int (nI z2), .int (nI z3), .int z4, .int z5, .ref z6, .ref z7, .ref z8, .ref z9, .int (nI z10), .ref z11, .ref z12, .ref z13, .ref z14, .ref z15, .int (nI zgw95), .ref z17, .int z18, .ref z19]))] ++ va_pl L M_98) := hD
                                    have hFc : ∀ q, va_A ([(za, .inr (13, [.int 0, .ref z1, .int (nI z2), .int (nI z3), .int z4, .int z5, .ref z6, .ref z7, .ref z8, .ref z9, .int (nI z10), .ref z11, .ref z12, .ref z13, .ref z14, .ref z15, .int (nI zgw95), .ref z17, .int z18, .ref z19]))] ++ va_pl L M_98) H_99.size q → A q := pg_free hDc hS hA
                                    refine va_callv (va_runV (As := [.ref b11, .int (nI v7w95), .int 0]) (rest := []) ⟨hx, hb, hml, hown, hg⟩ (g_X13_stretch l D cy K L M_98 H_99.size za 0 z1 z2 z3 z4 z5 z6 z7 z8 z9 z10 z11 z12 z13 z14 z15 zgw95 z17 z18 z19 b11 v7w95 0  hW i1 b2 b3 i6 i7 i8 i9 b10 i11 i12 i13 i14 i15 (by omega) i17 i19 hb_13 (by omega) hV.2.2.2 (by rw [hV.2.1]; exact h11) (by rw [hV.2.1, hV.2.2.1]; exact hAT.2.2.2.1.1 h11) (by have hq9 := hs4 v7w95 (by omega); rw [hV.2.1, hV.2.2.1]; show fx M b11 0 ≤ (gpw78 v7w95).toInt; omega) (by have hq9 := hs4 v7w95 (by omega); rw [hV.2.2.1]; show (gpw78 v7w95).toInt + (gqw78 v7w95).toInt ≤ 1000; omega)) (cwV 3 hg (gV wd_875 wd_876 wd_877 wd_717 wd_878) rfl rfl rfl (by decide +kernel) ⟨(Nat.le_trans (Nat.le_of_ble_eq_true rfl) hRf), (Nat.le_trans (Nat.le_of_ble_eq_true rfl) hRl)⟩) ⟨PG.blind, va_recv hK hP (ci := 13) (q0 := 0) rfl rfl, fun U hU hW => ⟨rfl, PG.at hPc hK hDc hN hU hW⟩⟩ rfl rfl hl.1 rfl (lv_room (Nat.le_of_ble_eq_true rfl)) dX13_close_266 ⟨(Nat.le_trans (Nat.le_of_ble_eq_true rfl) hRc), (Nat.le_trans (Nat.le_of_ble_eq_true rfl) hRs)⟩) hS (fun q _ h => hFc q h) hFc (fun M_213 t H_211 locs ht hvm hw hB hz1 hk1 hS => ?_)
                                    have hWb := hW
                                    obtain ⟨hW, hF2, hG2, hp_214⟩ := hw
                                    obtain ⟨w16_215, hg_216, hP1, hD1⟩ := hB
                                    rw [ht] at hP1
                                    have hP : va_P D vwCl ([(za, .inr (13, [.int 0, .ref z1, .int (nI z2), .int (nI z3), .int z4, .int z5, .ref z6, .ref z7, .ref z8, .ref z9, .int (nI z10), .ref z11, .ref z12, .ref z13, .ref z14, .ref z15, .int (nI w16_215), .ref z17, .int z18, .ref z19]))] ++ va_pl L M_213) H_211 := hP1
                                    have hD : va_D A ([(za, .inr (13, [.int 0, .ref z1, .int (nI z2), .int (nI z3), .int z4, .int z5, .ref z6, .ref z7, .ref z8, .ref z9, .int (nI z10), .ref z11, .ref z12, .ref z13, .ref z14, .ref z15, .int (nI w16_215), .ref z17, .int z18, .ref z19]))] ++ va_pl L M_213) := hD1.mono hFc
                                    have hF : fr K L [12, 14, 15, 32, 42, 45, 46] M M_213 := hF.tr hF2 (by decide)
                                    have hG : fG K L [1, 7, 8, 13, 14, 15, 16, 17, 18] M M_213 := hG.tr hWb hG2 (by decide)
                                    have hV : VW K L M M_213 b11 (va_up (fx M b11) 17 ((gnw78 : Nat) : Int)) (va_up (va_up (ax M b11) 44 gpw78) 45 gqw78) := hV.cal hWb hW hF2 hG2 (by decide) (by decide) hb_13
                                    refine lv_iinc (v := (nI (v7w95 + 1))) (lv' := [(7, .int (nI (v7w95 + 1))), (6, .int (nI v86)), (5, .int (-1)), (4, .int (nI c_31)), (3, .int 0), (2, .ref b11), (0, .ref za), (1, .int k1)]) hx hb dX13_close_269 hl (k := 0) rfl (nI_1 v7w95) (by decide) rfl (fun ls hl => ?_)
                                    refine lv_goto (tgt := 254) hx hb dX13_close_272 (by decide) ?_
                                    exact ih_93 (v7w95 + 1) w16_215 M_213 H_211 _ _ (by omega) (by omega) (by omega) hW hF hG hV hP hD hS (lv_sub hl [0, 1, 2, 3, 4, 5, 6, 7] rfl)
                              exact key_92 (1001 - 0 + 1) 0 z16 M_89 H_87 _ _ (by omega) (by omega) (by omega) hW hF hG hV hP hD hS (lv_sub hl [0, 1, 2, 3, 4, 5, 6, 7] rfl)
                            · have hz := rfl (a := 0)
                              have n_217 : ¬ (c_31 < v6w78) := fun q => c_83 ((iLT (a := c_31) (b := v6w78) (by omega) (by omega)).mpr q)
                              obtain ⟨fs218, hM218, hn218, hl218⟩ := hW.open_12 hb_13
                              obtain ⟨v219, hv219, hc219⟩ : ∃ v : Nat, fs218[17]? = some (.int (nI v) : Value) ∧ v ≤ 120 := hl218 17 (by decide)
                              have hx17 : ((gnw78 : Nat) : Int) = ((v219 : Nat) : Int) := (congrFun hV.2.1 17).symm.trans ((fx_of hM218 rfl hv219).trans (nI_toInt (by omega)))
                              obtain ⟨v220, hv220, hc220⟩ : ∃ v : Nat, fs218[44]? = some (.ref v : Value) ∧ isk K L v 45 120 := hl218 44 (by decide)
                              obtain ⟨f221, hM221, hf221⟩ := hW.open_45 hc220
                              have hy44 : gpw78 = f221 := (congrFun hV.2.2.1 44).symm.trans (ax_of hM218 (by decide) hv220 hM221)
                              obtain ⟨v222, hv222, hc222⟩ : ∃ v : Nat, fs218[45]? = some (.ref v : Value) ∧ isk K L v 46 120 := hl218 45 (by decide)
                              obtain ⟨f223, hM223, hf223⟩ := hW.open_46 hc222
                              have hy45 : gqw78 = f223 := (congrFun hV.2.2.1 45).symm.trans (ax_of hM218 (by decide) hv222 hM223)
                              have hSD := hx_80
                              obtain ⟨hs1, hs2, hs3, hs4⟩ := hx_80
                              have hgn : v219 = gnw78 := by omega
                              refine lv_iload hx hb dX13_close_171 (lv_at hl 0 rfl) ?_
                              refine lv_iload_n hx hb dX13_close_173 rfl (lv_at hl 3 rfl) ?_
                              refine lv_icmp_eq (tgt := 186) hx hb dX13_close_174 (by decide) (fun c_224 => ?_) (fun c_224 => ?_)
                              · have hz := rfl (a := 0)
                                have n_225 : v6w78 = 0 := (iEQ (a := v6w78) (b := 0) (by omega) (by omega)).mp c_224
                                refine lv_aload_n hx hb dX13_close_186 rfl (lv_at hl 4 rfl) ?_
                                refine pg_getN (D := D) (ci := 12) (v := .ref v220) (C := RX12) (T := TX12) (N := 51) hx hb hg inG12 hown hK hP hb_13.1 hM218 rfl 44 (by decide) (hN.use (Cond.fieldLinkNest RX13 265 RX12 "stretchDay" "[I" RX13) 53 rfl rfl) (fun _ h9 => h9) hv220 dX13_close_187 ?_
                                refine lv_aload_n hx hb dX13_close_190 rfl (lv_at hl 4 rfl) ?_
                                refine pg_getN (D := D) (ci := 12) (v := .int (nI v219)) (C := RX12) (T := TX12) (N := 51) hx hb hg inG12 hown hK hP hb_13.1 hM218 rfl 17 (by decide) (hN.use (Cond.fieldLinkNest RX13 256 RX12 "stretches" "I" RX13) 26 rfl rfl) (fun _ h9 => h9) hv219 dX13_close_191 ?_
                                refine lv_iload hx hb dX13_close_194 (lv_at hl 0 rfl) ?_
                                refine pg_iast hx hb hK hP hD hS hc220.1 0 hM221 rfl (inbN v219 120 (by omega) (by omega)) dX13_close_196 (fun H_226 locs hP hD hS => ?_)
                                obtain ⟨M_227, eM_227⟩ : ∃ M1 : Hp, M1 = va_up M_81 v220 (.inl (cy 14, 120, .inl (upd f221 ((nI v219) : Int32).toNatClampNeg (nI v6w78)))) := ⟨_, rfl⟩
                                have hy44 : gpw78 = f221 := (congrFun hV.2.2.1 44).symm.trans (ax_of hM218 (by decide) hv220 hM221)
                                have hV : VW K L M M_227 b11 (va_up (fx M b11) 17 ((gnw78 : Nat) : Int)) (va_up (va_up (va_up (ax M b11) 44 gpw78) 45 gqw78) 44 (upd gpw78 ((nI v219) : Int32).toNatClampNeg (nI v6w78))) := by rw [eM_227]; exact hV.ast (j := 44) hW hb_13 hM218 (by decide) hv220 hc220 hM221
                                have hP : va_P D vwCl ([(za, .inr (13, [.int 0, .ref z1, .int (nI z2), .int (nI z3), .int z4, .int z5, .ref z6, .ref z7, .ref z8, .ref z9, .int (nI z10), .ref z11, .ref z12, .ref z13, .ref z14, .ref z15, .int (nI z16), .ref z17, .int z18, .ref z19]))] ++ va_pl L M_227) H_226 := by rw [eM_227]; exact hP
                                have hD : va_D A ([(za, .inr (13, [.int 0, .ref z1, .int (nI z2), .int (nI z3), .int z4, .int z5, .ref z6, .ref z7, .ref z8, .ref z9, .int (nI z10), .ref z11, .ref z12, .ref z13, .ref z14, .ref z15, .int (nI z16), .ref z17, .int z18, .ref z19]))] ++ va_pl L M_227) := by rw [eM_227]; exact hD
                                have hW : WOM cy K L M_227 := by rw [eM_227]; exact hW.up_45 hc220 ⟨_, rfl, (updP (P := fun z => ∃ c : Nat, c < 1000 ∧ z = nI c) hf221 ⟨v6w78, by omega, rfl⟩)⟩
                                have hF : fr K L [12, 14, 15, 32, 42, 45, 46] M M_227 := by rw [eM_227]; exact hF.up hc220 (by decide)
                                have hG : fG K L [1, 7, 8, 13, 14, 15, 16, 17, 18] M M_227 := by rw [eM_227]; exact hG.arr hc220 (by decide)
                                have hM_228 : M_227 v220 = .inl (cy 14, 120, .inl (upd f221 ((nI v219) : Int32).toNatClampNeg (nI v6w78))) := by rw [eM_227]; exact va_up_self _ _ _
                                have hM_229 : M_227 b11 = .inr (12, fs218) := by rw [eM_227, va_up_ne _ _ (hb_13.neT hc220 (by decide))]; exact hM218
                                have hM_230 : M_227 v222 = .inl (cy 14, 120, .inl (f223)) := by rw [eM_227, va_up_ne _ _ (hc222.neT hc220 (by decide))]; exact hM223
                                have hf_232 : ∀ j, j < 120 → ∃ c : Nat, c < 1000 ∧ (upd f221 ((nI v219) : Int32).toNatClampNeg (nI v6w78)) j = nI c := (updP (P := fun z => ∃ c : Nat, c < 1000 ∧ z = nI c) hf221 ⟨v6w78, by omega, rfl⟩)
                                obtain ⟨f_231, ef_231⟩ : ∃ f : Nat → Int32, f = upd f221 ((nI v219) : Int32).toNatClampNeg (nI v6w78) := ⟨_, rfl⟩
                                rw [← ef_231] at hM_228 hf_232
                                refine lv_aload_n hx hb dX13_close_197 rfl (lv_at hl 4 rfl) ?_
                                refine pg_getN (D := D) (ci := 12) (v := .ref v222) (C := RX12) (T := TX12) (N := 51) hx hb hg inG12 hown hK hP hb_13.1 hM_229 rfl 45 (by decide) (hN.use (Cond.fieldLinkNest RX13 268 RX12 "stretchDays" "[I" RX13) 54 rfl rfl) (fun _ h9 => h9) hv222 dX13_close_198 ?_
                                refine lv_aload_n hx hb dX13_close_201 rfl (lv_at hl 4 rfl) ?_
                                refine pg_getN (D := D) (ci := 12) (v := .int (nI v219)) (C := RX12) (T := TX12) (N := 51) hx hb hg inG12 hown hK hP hb_13.1 hM_229 rfl 17 (by decide) (hN.use (Cond.fieldLinkNest RX13 256 RX12 "stretches" "I" RX13) 26 rfl rfl) (fun _ h9 => h9) hv219 dX13_close_202 ?_
                                refine lv_iconst (v := 0) hx hb dX13_close_205 (by decide) ?_
                                refine pg_iast hx hb hK hP hD hS hc222.1 0 hM_230 rfl (inbN v219 120 (by omega) (by omega)) dX13_close_206 (fun H_233 locs hP hD hS => ?_)
                                obtain ⟨M_234, eM_234⟩ : ∃ M1 : Hp, M1 = va_up M_227 v222 (.inl (cy 14, 120, .inl (upd f223 ((nI v219) : Int32).toNatClampNeg 0))) := ⟨_, rfl⟩
                                have hy45 : gqw78 = f223 := (congrFun hV.2.2.1 45).symm.trans (ax_of hM_229 (by decide) hv222 hM_230)
                                have hV : VW K L M M_234 b11 (va_up (fx M b11) 17 ((gnw78 : Nat) : Int)) (va_up (va_up (va_up (va_up (ax M b11) 44 gpw78) 45 gqw78) 44 (upd gpw78 ((nI v219) : Int32).toNatClampNeg (nI v6w78))) 45 (upd gqw78 ((nI v219) : Int32).toNatClampNeg 0)) := by rw [eM_234]; exact hV.ast (j := 45) hW hb_13 hM_229 (by decide) hv222 hc222 hM_230
                                have hP : va_P D vwCl ([(za, .inr (13, [.int 0, .ref z1, .int (nI z2), .int (nI z3), .int z4, .int z5, .ref z6, .ref z7, .ref z8, .ref z9, .int (nI z10), .ref z11, .ref z12, .ref z13, .ref z14, .ref z15, .int (nI z16), .ref z17, .int z18, .ref z19]))] ++ va_pl L M_234) H_233 := by rw [eM_234]; exact hP
                                have hD : va_D A ([(za, .inr (13, [.int 0, .ref z1, .int (nI z2), .int (nI z3), .int z4, .int z5, .ref z6, .ref z7, .ref z8, .ref z9, .int (nI z10), .ref z11, .ref z12, .ref z13, .ref z14, .ref z15, .int (nI z16), .ref z17, .int z18, .ref z19]))] ++ va_pl L M_234) := by rw [eM_234]; exact hD
                                have hW : WOM cy K L M_234 := by rw [eM_234]; exact hW.up_46 hc222 ⟨_, rfl, (updP (P := fun z => ∃ c : Nat, c < 1001 ∧ z = nI c) hf223 ⟨0, by omega, rfl⟩)⟩
                                have hF : fr K L [12, 14, 15, 32, 42, 45, 46] M M_234 := by rw [eM_234]; exact hF.up hc222 (by decide)
                                have hG : fG K L [1, 7, 8, 13, 14, 15, 16, 17, 18] M M_234 := by rw [eM_234]; exact hG.arr hc222 (by decide)
                                have hM_235 : M_234 v222 = .inl (cy 14, 120, .inl (upd f223 ((nI v219) : Int32).toNatClampNeg 0)) := by rw [eM_234]; exact va_up_self _ _ _
                                have hM_236 : M_234 v220 = .inl (cy 14, 120, .inl (f_231)) := by rw [eM_234, va_up_ne _ _ (hc220.neT hc222 (by decide))]; exact hM_228
                                have hM_237 : M_234 b11 = .inr (12, fs218) := by rw [eM_234, va_up_ne _ _ (hb_13.neT hc222 (by decide))]; exact hM_229
                                have hf_239 : ∀ j, j < 120 → ∃ c : Nat, c < 1001 ∧ (upd f223 ((nI v219) : Int32).toNatClampNeg 0) j = nI c := (updP (P := fun z => ∃ c : Nat, c < 1001 ∧ z = nI c) hf223 ⟨0, by omega, rfl⟩)
                                obtain ⟨f_238, ef_238⟩ : ∃ f : Nat → Int32, f = upd f223 ((nI v219) : Int32).toNatClampNeg 0 := ⟨_, rfl⟩
                                rw [← ef_238] at hM_235 hf_239
                                refine lv_aload_n hx hb dX13_close_207 rfl (lv_at hl 4 rfl) ?_
                                refine lv_dup hx hb dX13_close_208 rfl ?_
                                refine pg_getN (D := D) (ci := 12) (v := .int (nI v219)) (C := RX12) (T := TX12) (N := 51) hx hb hg inG12 hown hK hP hb_13.1 hM_237 rfl 17 (by decide) (hN.use (Cond.fieldLinkNest RX13 256 RX12 "stretches" "I" RX13) 26 rfl rfl) (fun _ h9 => h9) hv219 dX13_close_209 ?_
                                refine lv_iconst (v := 1) hx hb dX13_close_212 (by decide) ?_
                                refine lv_iadd hx hb dX13_close_213 ?_
                                refine lv_topi (fun f_240 ef_240 => ?_)
                                obtain rfl : f_240 = (nI (v219 + 1)) := ef_240.trans (nI_add v219 1)
                                refine pg_putN (D := D) (ci := 12) (v := .int (nI (v219 + 1))) (ty := .int) (C := RX12) (T := TX12) (N := 51) hx hb hg inG12 tyX12 tyX12_ok nmX12 hown hK hP hD hS hb_13.1 hM_237 rfl 17 (by decide) (hN.use (Cond.fieldLinkNest RX13 256 RX12 "stretches" "I" RX13) 26 rfl rfl) (fun _ h9 => h9) rfl (by decide +kernel) rfl rfl (by rw [hn218]; decide) dX13_close_214 (fun H_241 locs hP hD hS => ?_)
                                have hs_244 : (fs218.set 17 (.int (nI (v219 + 1))))[17]? = some (.int (nI (v219 + 1))) := List.getElem?_set_self (by rw [hn218]; decide)
                                have hk_243 := fld12_set (k := 17) (w := .int (nI (v219 + 1))) hl218 (show fld12 K L 17 (fs218.set 17 (.int (nI (v219 + 1)))) from ⟨(v219 + 1), hs_244, by omega⟩)
                                have hn_245 : (fs218.set 17 (.int (nI (v219 + 1)))).length = 51 := by rw [List.length_set]; exact hn218
                                have hv_246 : (fs218.set 17 (.int (nI (v219 + 1))))[44]? = some (.ref v220) := by rw [List.getElem?_set_ne (by decide)]; exact hv220
                                have hv_247 : (fs218.set 17 (.int (nI (v219 + 1))))[45]? = some (.ref v222) := by rw [List.getElem?_set_ne (by decide)]; exact hv222
                                have hb_248 : (v219 + 1) ≤ 120 := by omega
                                obtain ⟨M_249, eM_249⟩ : ∃ M1 : Hp, M1 = va_up M_234 b11 (.inr (12, fs218.set 17 (.int (nI (v219 + 1))))) := ⟨_, rfl⟩
                                have hx17 : ((gnw78 : Nat) : Int) = ((v219 : Nat) : Int) := (congrFun hV.2.1 17).symm.trans ((fx_of hM_237 rfl hv219).trans (nI_toInt (by omega)))
                                have hV : VW K L M M_249 b11 (va_up (va_up (fx M b11) 17 ((gnw78 : Nat) : Int)) 17 (((v219 + 1) : Nat) : Int)) (va_up (va_up (va_up (va_up (ax M b11) 44 gpw78) 45 gqw78) 44 (upd gpw78 ((nI v219) : Int32).toNatClampNeg (nI v6w78))) 45 (upd gqw78 ((nI v219) : Int32).toNatClampNeg 0)) := by rw [eM_249]; exact hV.put hW hb_13 hM_237 hn218 rfl (by decide) rfl (nI_toInt (by omega))
                                have hP : va_P D vwCl ([(za, .inr (13, [.int 0, .ref z1, .int (nI z2), .int (nI z3), .int z4, .int z5, .ref z6, .ref z7, .ref z8, .ref z9, .int (nI z10), .ref z11, .ref z12, .ref z13, .ref z14, .ref z15, .int (nI z16), .ref z17, .int z18, .ref z19]))] ++ va_pl L M_249) H_241 := by rw [eM_249]; exact hP
                                have hD : va_D A ([(za, .inr (13, [.int 0, .ref z1, .int (nI z2), .int (nI z3), .int z4, .int z5, .ref z6, .ref z7, .ref z8, .ref z9, .int (nI z10), .ref z11, .ref z12, .ref z13, .ref z14, .ref z15, .int (nI z16), .ref z17, .int z18, .ref z19]))] ++ va_pl L M_249) := by rw [eM_249]; exact hD
                                have hW : WOM cy K L M_249 := by rw [eM_249]; exact hW.up_12 hb_13 ⟨_, rfl, hn_245, hk_243⟩
                                have hF : fr K L [12, 14, 15, 32, 42, 45, 46] M M_249 := by rw [eM_249]; exact hF.up hb_13 (by decide)
                                have hG : fG K L [1, 7, 8, 13, 14, 15, 16, 17, 18] M M_249 := by rw [eM_249]; exact hG.up hM_237 (by decide)
                                have hM_250 : M_249 b11 = .inr (12, fs218.set 17 (.int (nI (v219 + 1)))) := by rw [eM_249]; exact va_up_self _ _ _
                                have hM_251 : M_249 v222 = .inl (cy 14, 120, .inl (f_238)) := by rw [eM_249, va_up_ne _ _ (hc222.neT hb_13 (by decide))]; exact hM_235
                                have hM_252 : M_249 v220 = .inl (cy 14, 120, .inl (f_231)) := by rw [eM_249, va_up_ne _ _ (hc220.neT hb_13 (by decide))]; exact hM_236
                                refine lv_aload_n hx hb dX13_close_217 rfl (lv_at hl 4 rfl) ?_
                                refine pg_getN (D := D) (ci := 12) (v := .ref v222) (C := RX12) (T := TX12) (N := 51) hx hb hg inG12 hown hK hP hb_13.1 hM_250 rfl 45 (by decide) (hN.use (Cond.fieldLinkNest RX13 268 RX12 "stretchDays" "[I" RX13) 54 rfl rfl) (fun _ h9 => h9) hv_247 dX13_close_218 ?_
                                refine lv_aload_n hx hb dX13_close_221 rfl (lv_at hl 4 rfl) ?_
                                refine pg_getN (D := D) (ci := 12) (v := .int (nI (v219 + 1))) (C := RX12) (T := TX12) (N := 51) hx hb hg inG12 hown hK hP hb_13.1 hM_250 rfl 17 (by decide) (hN.use (Cond.fieldLinkNest RX13 256 RX12 "stretches" "I" RX13) 26 rfl rfl) (fun _ h9 => h9) hs_244 dX13_close_222 ?_
                                refine lv_iconst (v := 1) hx hb dX13_close_225 (by decide) ?_
                                refine lv_isub hx hb dX13_close_226 ?_
                                refine lv_topi (fun f_253 ef_253 => ?_)
                                obtain rfl : f_253 = (nI ((v219 + 1) - 1)) := ef_253.trans (nI_prd (by omega))
                                refine lv_dup2_11 hx hb dX13_close_227 rfl rfl ?_
                                have hi_254 : vp_in (nI ((v219 + 1) - 1)) 120 := (inbN ((v219 + 1) - 1) 120 (by omega) (by omega))
                                refine pg_iald hx hb hK hP hc222.1 0 hM_251 rfl hi_254 dX13_close_228 ?_
                                have hp_255 := hf_239 _ (vp_lt hi_254)
                                obtain ⟨c_256, hc_257, ec_258⟩ := hp_255
                                rw [ec_258]
                                have hy45 : (upd gqw78 ((nI v219) : Int32).toNatClampNeg 0) = f_238 := (congrFun hV.2.2.1 45).symm.trans (ax_of hM_250 (by decide) hv_247 hM_251)
                                have hec : (upd gqw78 ((nI v219) : Int32).toNatClampNeg 0) ((nI ((v219 + 1) - 1)) : Int32).toNatClampNeg = nI c_256 := by rw [hy45]; exact ec_258
                                have hcc : c_256 = 0 := updz (n := v219) (nI_cl (by omega)) ((nI_cl (by omega)).trans (by omega)) hec (by omega)
                                refine lv_iconst (v := 1) hx hb dX13_close_229 (by decide) ?_
                                refine lv_iadd hx hb dX13_close_230 ?_
                                refine lv_topi (fun f_259 ef_259 => ?_)
                                obtain rfl : f_259 = (nI (c_256 + 1)) := ef_259.trans (nI_add c_256 1)
                                refine pg_iast hx hb hK hP hD hS hc222.1 0 hM_251 rfl (inbN ((v219 + 1) - 1) 120 (by omega) (by omega)) dX13_close_231 (fun H_260 locs hP hD hS => ?_)
                                obtain ⟨M_261, eM_261⟩ : ∃ M1 : Hp, M1 = va_up M_249 v222 (.inl (cy 14, 120, .inl (upd f_238 ((nI ((v219 + 1) - 1)) : Int32).toNatClampNeg (nI (c_256 + 1))))) := ⟨_, rfl⟩
                                have hy45 : (upd gqw78 ((nI v219) : Int32).toNatClampNeg 0) = f_238 := (congrFun hV.2.2.1 45).symm.trans (ax_of hM_250 (by decide) hv_247 hM_251)
                                have hV : VW K L M M_261 b11 (va_up (va_up (fx M b11) 17 ((gnw78 : Nat) : Int)) 17 (((v219 + 1) : Nat) : Int)) (va_up (va_up (va_up (va_up (va_up (ax M b11) 44 gpw78) 45 gqw78) 44 (upd gpw78 ((nI v219) : Int32).toNatClampNeg (nI v6w78))) 45 (upd gqw78 ((nI v219) : Int32).toNatClampNeg 0)) 45 (upd (upd gqw78 ((nI v219) : Int32).toNatClampNeg 0) ((nI ((v219 + 1) - 1)) : Int32).toNatClampNeg (nI (c_256 + 1)))) := by rw [eM_261]; exact hV.ast (j := 45) hW hb_13 hM_250 (by decide) hv_247 hc222 hM_251
                                have hP : va_P D vwCl ([(za, .inr (13, [.int 0, .ref z1, .int (nI z2), .int (nI z3), .int z4, .int z5, .ref z6, .ref z7, .ref z8, .ref z9, .int (nI z10), .ref z11, .ref z12, .ref z13, .ref z14, .ref z15, .int (nI z16), .ref z17, .int z18, .ref z19]))] ++ va_pl L M_261) H_260 := by rw [eM_261]; exact hP
                                have hD : va_D A ([(za, .inr (13, [.int 0, .ref z1, .int (nI z2), .int (nI z3), .int z4, .int z5, .ref z6, .ref z7, .ref z8, .ref z9, .int (nI z10), .ref z11, .ref z12, .ref z13, .ref z14, .ref z15, .int (nI z16), .ref z17, .int z18, .ref z19]))] ++ va_pl L M_261) := by rw [eM_261]; exact hD
                                have hW : WOM cy K L M_261 := by rw [eM_261]; exact hW.up_46 hc222 ⟨_, rfl, (updP (P := fun z => ∃ c : Nat, c < 1001 ∧ z = nI c) hf_239 ⟨(c_256 + 1), by omega, rfl⟩)⟩
                                have hF : fr K L [12, 14, 15, 32, 42, 45, 46] M M_261 := by rw [eM_261]; exact hF.up hc222 (by decide)
                                have hG : fG K L [1, 7, 8, 13, 14, 15, 16, 17, 18] M M_261 := by rw [eM_261]; exact hG.arr hc222 (by decide)
                                have hM_262 : M_261 v222 = .inl (cy 14, 120, .inl (upd f_238 ((nI ((v219 + 1) - 1)) : Int32).toNatClampNeg (nI (c_256 + 1)))) := by rw [eM_261]; exact va_up_self _ _ _
                                have hM_263 : M_261 b11 = .inr (12, fs218.set 17 (.int (nI (v219 + 1)))) := by rw [eM_261, va_up_ne _ _ (hb_13.neT hc222 (by decide))]; exact hM_250
                                have hM_264 : M_261 v220 = .inl (cy 14, 120, .inl (f_231)) := by rw [eM_261, va_up_ne _ _ (hc220.neT hc222 (by decide))]; exact hM_252
                                have hf_266 : ∀ j, j < 120 → ∃ c : Nat, c < 1001 ∧ (upd f_238 ((nI ((v219 + 1) - 1)) : Int32).toNatClampNeg (nI (c_256 + 1))) j = nI c := (updP (P := fun z => ∃ c : Nat, c < 1001 ∧ z = nI c) hf_239 ⟨(c_256 + 1), by omega, rfl⟩)
                                obtain ⟨f_265, ef_265⟩ : ∃ f : Nat → Int32, f = upd f_238 ((nI ((v219 + 1) - 1)) : Int32).toNatClampNeg (nI (c_256 + 1)) := ⟨_, rfl⟩
                                rw [← ef_265] at hM_262 hf_266
                                refine lv_iinc (v := (nI (v6w78 + 1))) (lv' := [(6, .int (nI (v6w78 + 1))), (5, .int (-1)), (4, .int (nI c_31)), (3, .int 0), (2, .ref b11), (0, .ref za), (1, .int k1)]) hx hb dX13_close_232 hl (k := 0) rfl (nI_1 v6w78) (by decide) rfl (fun ls hl => ?_)
                                refine lv_goto (tgt := 164) hx hb dX13_close_235 (by decide) ?_
                                exact ih_76 (v6w78 + 1) (v219 + 1) (upd gpw78 ((nI v219) : Int32).toNatClampNeg (nI v6w78)) (upd (upd gqw78 ((nI v219) : Int32).toNatClampNeg 0) ((nI ((v219 + 1) - 1)) : Int32).toNatClampNeg (nI (c_256 + 1))) M_261 H_260 _ _ (by omega) (by omega) (by have h := SD.new hSD (by omega) (show (nI v219).toNatClampNeg = gnw78 from (nI_cl (by omega)).trans (by omega)) (show (nI ((v219 + 1) - 1)).toNatClampNeg = gnw78 from (nI_cl (by omega)).trans (by omega)) hcc; rw [← hgn] at h; exact h) hW hF hG (by have h := hV; simp only [va_up_up] at h; rw [va_up_4] at h; exact h) hP hD hS (lv_sub hl [0, 1, 2, 3, 4, 5, 6] rfl)
                              · have hz := rfl (a := 0)
                                have n_267 : ¬ (v6w78 = 0) := fun q => c_224 ((iEQ (a := v6w78) (b := 0) (by omega) (by omega)).mpr q)
                                refine lv_aload_n hx hb dX13_close_177 rfl (lv_at hl 4 rfl) ?_
                                refine lv_iload hx hb dX13_close_178 (lv_at hl 0 rfl) ?_
                                have hPc : va_P D vwCl ([] ++ va_pl L M_81) H_82 := hP.part (cx := []) [] rfl
                                have hDc : va_D A ([] ++ va_pl L M_81) := hD.part (cx := []) [] (by decide) rfl
                                have hFc : ∀ q, va_A ([] ++ va_pl L M_81) H_82.size q → A q := pg_free hDc hS hA
                                refine va_calli (va_runS (As := [.ref b11, .int (nI v6w78)]) (rest := []) ⟨hx, hb, hml, hown, hg⟩ (r_X13_isParted l D cy K L M_81 H_82.size b11 (nI v6w78)  hW hb_13) (va_cwS 2 hg (gS wd_879 wd_880 wd_717 wd_881) rfl rfl rfl (by decide +kernel) ⟨(Nat.le_trans (Nat.le_of_ble_eq_true rfl) hRf), (Nat.le_trans (Nat.le_of_ble_eq_true rfl) hRl)⟩) ⟨PG.blind, fun U hU hW => ⟨rfl, PG.at hPc hK hDc hN hU hW⟩⟩ rfl rfl hl.1 rfl (lv_room (Nat.le_of_ble_eq_true rfl)) dX13_close_180 ⟨(Nat.le_trans (Nat.le_of_ble_eq_true rfl) hRc), (Nat.le_trans (Nat.le_of_ble_eq_true rfl) hRs)⟩) hS (fun q _ h => hFc q h) hFc (fun r_269 M_270 t H_268 locs ht hvm hw hB hz1 hk1 hS => ?_)
                                have hp_271 := hw
                                obtain ⟨hP1, hD1⟩ := hB
                                rw [ht] at hP1
                                obtain ⟨hP, hD⟩ := va_joinP (X := [(za, .inr (13, [.int 0, .ref z1, .int (nI z2), .int (nI z3), .int z4, .int z5, .ref z6, .ref z7, .ref z8, .ref z9, .int (nI z10), .ref z11, .ref z12, .ref z13, .ref z14, .ref z15, .int (nI z16), .ref z17, .int z18, .ref z19]))]) (cx := []) (wr := [(za, .inr (13, [.int 0, .ref z1, .int (nI z2), .int (nI z3), .int z4, .int z5, .ref z6, .ref z7, .ref z8, .ref z9, .int (nI z10), .ref z11, .ref z12, .ref z13, .ref z14, .ref z15, .int (nI z16), .ref z17, .int z18, .ref z19]))]) (rx := []) (pl := va_pl L M_81) (pl1 := va_pl L M_81) hP hD [] [0] rfl rfl (by decide) (by decide) hk1 hFc hP1 hD1
                                have hP : va_P D vwCl ([(za, .inr (13, [.int 0, .ref z1, .int (nI z2), .int (nI z3), .int z4, .int z5, .ref z6, .ref z7, .ref z8, .ref z9, .int (nI z10), .ref z11, .ref z12, .ref z13, .ref z14, .ref z15, .int (nI z16), .ref z17, .int z18, .ref z19]))] ++ va_pl L M_81) H_268 := hP
                                have hD : va_D A ([(za, .inr (13, [.int 0, .ref z1, .int (nI z2), .int (nI z3), .int z4, .int z5, .ref z6, .ref z7, .ref z8, .ref z9, .int (nI z10), .ref z11, .ref z12, .ref z13, .ref z14, .ref z15, .int (nI z16), .ref z17, .int z18, .ref z19]))] ++ va_pl L M_81) := hD
                                rcases hp_271 with rfl | rfl
                                · have hz := rfl (a := 0)
                                  refine lv_if_eq (tgt := 217) hx hb dX13_close_183 (by decide) (fun c_272 => absurd c_272 (by decide)) (fun _ => ?_)
                                  refine lv_aload_n hx hb dX13_close_186 rfl (lv_at hl 4 rfl) ?_
                                  refine pg_getN (D := D) (ci := 12) (v := .ref v220) (C := RX12) (T := TX12) (N := 51) hx hb hg inG12 hown hK hP hb_13.1 hM218 rfl 44 (by decide) (hN.use (Cond.fieldLinkNest RX13 265 RX12 "stretchDay" "[I" RX13) 53 rfl rfl) (fun _ h9 => h9) hv220 dX13_close_187 ?_
                                  refine lv_aload_n hx hb dX13_close_190 rfl (lv_at hl 4 rfl) ?_
                                  refine pg_getN (D := D) (ci := 12) (v := .int (nI v219)) (C := RX12) (T := TX12) (N := 51) hx hb hg inG12 hown hK hP hb_13.1 hM218 rfl 17 (by decide) (hN.use (Cond.fieldLinkNest RX13 256 RX12 "stretches" "I" RX13) 26 rfl rfl) (fun _ h9 => h9) hv219 dX13_close_191 ?_
                                  refine lv_iload hx hb dX13_close_194 (lv_at hl 0 rfl) ?_
                                  refine pg_iast hx hb hK hP hD hS hc220.1 0 hM221 rfl (inbN v219 120 (by omega) (by omega)) dX13_close_196 (fun H_273 locs hP hD hS => ?_)
                                  obtain ⟨M_274, eM_274⟩ : ∃ M1 : Hp, M1 = va_up M_81 v220 (.inl (cy 14, 120, .inl (upd f221 ((nI v219) : Int32).toNatClampNeg (nI v6w78)))) := ⟨_, rfl⟩
                                  have hy44 : gpw78 = f221 := (congrFun hV.2.2.1 44).symm.trans (ax_of hM218 (by decide) hv220 hM221)
                                  have hV : VW K L M M_274 b11 (va_up (fx M b11) 17 ((gnw78 : Nat) : Int)) (va_up (va_up (va_up (ax M b11) 44 gpw78) 45 gqw78) 44 (upd gpw78 ((nI v219) : Int32).toNatClampNeg (nI v6w78))) := by rw [eM_274]; exact hV.ast (j := 44) hW hb_13 hM218 (by decide) hv220 hc220 hM221
                                  have hP : va_P D vwCl ([(za, .inr (13, [.int 0, .ref z1, .int (nI z2), .int (nI z3), .int z4, .int z5, .ref z6, .ref z7, .ref z8, .ref z9, .int (nI z10), .ref z11, .ref z12, .ref z13, .ref z14, .ref z15, .int (nI z16), .ref z17, .int z18, .ref z19]))] ++ va_pl L M_274) H_273 := by rw [eM_274]; exact hP
                                  have hD : va_D A ([(za, .inr (13, [.int 0, .ref z1, .int (nI z2), .int (nI z3), .int z4, .int z5, .ref z6, .ref z7, .ref z8, .ref z9, .int (nI z10), .ref z11, .ref z12, .ref z13, .ref z14, .ref z15, .int (nI z16), .ref z17, .int z18, .ref z19]))] ++ va_pl L M_274) := by rw [eM_274]; exact hD
                                  have hW : WOM cy K L M_274 := by rw [eM_274]; exact hW.up_45 hc220 ⟨_, rfl, (updP (P := fun z => ∃ c : Nat, c < 1000 ∧ z = nI c) hf221 ⟨v6w78, by omega, rfl⟩)⟩
                                  have hF : fr K L [12, 14, 15, 32, 42, 45, 46] M M_274 := by rw [eM_274]; exact hF.up hc220 (by decide)
                                  have hG : fG K L [1, 7, 8, 13, 14, 15, 16, 17, 18] M M_274 := by rw [eM_274]; exact hG.arr hc220 (by decide)
                                  have hM_275 : M_274 v220 = .inl (cy 14, 120, .inl (upd f221 ((nI v219) : Int32).toNatClampNeg (nI v6w78))) := by rw [eM_274]; exact va_up_self _ _ _
                                  have hM_276 : M_274 b11 = .inr (12, fs218) := by rw [eM_274, va_up_ne _ _ (hb_13.neT hc220 (by decide))]; exact hM218
                                  have hM_277 : M_274 v222 = .inl (cy 14, 120, .inl (f223)) := by rw [eM_274, va_up_ne _ _ (hc222.neT hc220 (by decide))]; exact hM223
                                  have hf_279 : ∀ j, j < 120 → ∃ c : Nat, c < 1000 ∧ (upd f221 ((nI v219) : Int32).toNatClampNeg (nI v6w78)) j = nI c := (updP (P := fun z => ∃ c : Nat, c < 1000 ∧ z = nI c) hf221 ⟨v6w78, by omega, rfl⟩)
                                  obtain ⟨f_278, ef_278⟩ : ∃ f : Nat → Int32, f = upd f221 ((nI v219) : Int32).toNatClampNeg (nI v6w78) := ⟨_, rfl⟩
                                  rw [← ef_278] at hM_275 hf_279
                                  refine lv_aload_n hx hb dX13_close_197 rfl (lv_at hl 4 rfl) ?_
                                  refine pg_getN (D := D) (ci := 12) (v := .ref v222) (C := RX12) (T := TX12) (N := 51) hx hb hg inG12 hown hK hP hb_13.1 hM_276 rfl 45 (by decide) (hN.use (Cond.fieldLinkNest RX13 268 RX12 "stretchDays" "[I" RX13) 54 rfl rfl) (fun _ h9 => h9) hv222 dX13_close_198 ?_
                                  refine lv_aload_n hx hb dX13_close_201 rfl (lv_at hl 4 rfl) ?_
                                  refine pg_getN (D := D) (ci := 12) (v := .int (nI v219)) (C := RX12) (T := TX12) (N := 51) hx hb hg inG12 hown hK hP hb_13.1 hM_276 rfl 17 (by decide) (hN.use (Cond.fieldLinkNest RX13 256 RX12 "stretches" "I" RX13) 26 rfl rfl) (fun _ h9 => h9) hv219 dX13_close_202 ?_
                                  refine lv_iconst (v := 0) hx hb dX13_close_205 (by decide) ?_
                                  refine pg_iast hx hb hK hP hD hS hc222.1 0 hM_277 rfl (inbN v219 120 (by omega) (by omega)) dX13_close_206 (fun H_280 locs hP hD hS => ?_)
                                  obtain ⟨M_281, eM_281⟩ : ∃ M1 : Hp, M1 = va_up M_274 v222 (.inl (cy 14, 120, .inl (upd f223 ((nI v219) : Int32).toNatClampNeg 0))) := ⟨_, rfl⟩
                                  have hy45 : gqw78 = f223 := (congrFun hV.2.2.1 45).symm.trans (ax_of hM_276 (by decide) hv222 hM_277)
                                  have hV : VW K L M M_281 b11 (va_up (fx M b11) 17 ((gnw78 : Nat) : Int)) (va_up (va_up (va_up (va_up (ax M b11) 44 gpw78) 45 gqw78) 44 (upd gpw78 ((nI v219) : Int32).toNatClampNeg (nI v6w78))) 45 (upd gqw78 ((nI v219) : Int32).toNatClampNeg 0)) := by rw [eM_281]; exact hV.ast (j := 45) hW hb_13 hM_276 (by decide) hv222 hc222 hM_277
                                  have hP : va_P D vwCl ([(za, .inr (13, [.int 0, .ref z1, .int (nI z2), .int (nI z3), .int z4, .int z5, .ref z6, .ref z7, .ref z8, .ref z9, .int (nI z10), .ref z11, .ref z12, .ref z13, .ref z14, .ref z15, .int (nI z16), .ref z17, .int z18, .ref z19]))] ++ va_pl L M_281) H_280 := by rw [eM_281]; exact hP
                                  have hD : va_D A ([(za, .inr (13, [.int 0, .ref z1, .int (nI z2), .int (nI z3), .int z4, .int z5, .ref z6, .ref z7, .ref z8, .ref z9, .int (nI z10), .ref z11, .ref z12, .ref z13, .ref z14, .ref z15, .int (nI z16), .ref z17, .int z18, .ref z19]))] ++ va_pl L M_281) := by rw [eM_281]; exact hD
                                  have hW : WOM cy K L M_281 := by rw [eM_281]; exact hW.up_46 hc222 ⟨_, rfl, (updP (P := fun z => ∃ c : Nat, c < 1001 ∧ z = nI c) hf223 ⟨0, by omega, rfl⟩)⟩
                                  have hF : fr K L [12, 14, 15, 32, 42, 45, 46] M M_281 := by rw [eM_281]; exact hF.up hc222 (by decide)
                                  have hG : fG K L [1, 7, 8, 13, 14, 15, 16, 17, 18] M M_281 := by rw [eM_281]; exact hG.arr hc222 (by decide)
                                  have hM_282 : M_281 v222 = .inl (cy 14, 120, .inl (upd f223 ((nI v219) : Int32).toNatClampNeg 0)) := by rw [eM_281]; exact va_up_self _ _ _
                                  have hM_283 : M_281 v220 = .inl (cy 14, 120, .inl (f_278)) := by rw [eM_281, va_up_ne _ _ (hc220.neT hc222 (by decide))]; exact hM_275
                                  have hM_284 : M_281 b11 = .inr (12, fs218) := by rw [eM_281, va_up_ne _ _ (hb_13.neT hc222 (by decide))]; exact hM_276
                                  have hf_286 : ∀ j, j < 120 → ∃ c : Nat, c < 1001 ∧ (upd f223 ((nI v219) : Int32).toNatClampNeg 0) j = nI c := (updP (P := fun z => ∃ c : Nat, c < 1001 ∧ z = nI c) hf223 ⟨0, by omega, rfl⟩)
                                  obtain ⟨f_285, ef_285⟩ : ∃ f : Nat → Int32, f = upd f223 ((nI v219) : Int32).toNatClampNeg 0 := ⟨_, rfl⟩
                                  rw [← ef_285] at hM_282 hf_286
                                  refine lv_aload_n hx hb dX13_close_207 rfl (lv_at hl 4 rfl) ?_
                                  refine lv_dup hx hb dX13_close_208 rfl ?_
                                  refine pg_getN (D := D) (ci := 12) (v := .int (nI v219)) (C := RX12) (T := TX12) (N := 51) hx hb hg inG12 hown hK hP hb_13.1 hM_284 rfl 17 (by decide) (hN.use (Cond.fieldLinkNest RX13 256 RX12 "stretches" "I" RX13) 26 rfl rfl) (fun _ h9 => h9) hv219 dX13_close_209 ?_
                                  refine lv_iconst (v := 1) hx hb dX13_close_212 (by decide) ?_
                                  refine lv_iadd hx hb dX13_close_213 ?_
                                  refine lv_topi (fun f_287 ef_287 => ?_)
                                  obtain rfl : f_287 = (nI (v219 + 1)) := ef_287.trans (nI_add v219 1)
                                  refine pg_putN (D := D) (ci := 12) (v := .int (nI (v219 + 1))) (ty := .int) (C := RX12) (T := TX12) (N := 51) hx hb hg inG12 tyX12 tyX12_ok nmX12 hown hK hP hD hS hb_13.1 hM_284 rfl 17 (by decide) (hN.use (Cond.fieldLinkNest RX13 256 RX12 "stretches" "I" RX13) 26 rfl rfl) (fun _ h9 => h9) rfl (by decide +kernel) rfl rfl (by rw [hn218]; decide) dX13_close_214 (fun H_288 locs hP hD hS => ?_)
                                  have hs_291 : (fs218.set 17 (.int (nI (v219 + 1))))[17]? = some (.int (nI (v219 + 1))) := List.getElem?_set_self (by rw [hn218]; decide)
                                  have hk_290 := fld12_set (k := 17) (w := .int (nI (v219 + 1))) hl218 (show fld12 K L 17 (fs218.set 17 (.int (nI (v219 + 1)))) from ⟨(v219 + 1), hs_291, by omega⟩)
                                  have hn_292 : (fs218.set 17 (.int (nI (v219 + 1)))).length = 51 := by rw [List.length_set]; exact hn218
                                  have hv_293 : (fs218.set 17 (.int (nI (v219 + 1))))[44]? = some (.ref v220) := by rw [List.getElem?_set_ne (by decide)]; exact hv220
                                  have hv_294 : (fs218.set 17 (.int (nI (v219 + 1))))[45]? = some (.ref v222) := by rw [List.getElem?_set_ne (by decide)]; exact hv222
                                  have hb_295 : (v219 + 1) ≤ 120 := by omega
                                  obtain ⟨M_296, eM_296⟩ : ∃ M1 : Hp, M1 = va_up M_281 b11 (.inr (12, fs218.set 17 (.int (nI (v219 + 1))))) := ⟨_, rfl⟩
                                  have hx17 : ((gnw78 : Nat) : Int) = ((v219 : Nat) : Int) := (congrFun hV.2.1 17).symm.trans ((fx_of hM_284 rfl hv219).trans (nI_toInt (by omega)))
                                  have hV : VW K L M M_296 b11 (va_up (va_up (fx M b11) 17 ((gnw78 : Nat) : Int)) 17 (((v219 + 1) : Nat) : Int)) (va_up (va_up (va_up (va_up (ax M b11) 44 gpw78) 45 gqw78) 44 (upd gpw78 ((nI v219) : Int32).toNatClampNeg (nI v6w78))) 45 (upd gqw78 ((nI v219) : Int32).toNatClampNeg 0)) := by rw [eM_296]; exact hV.put hW hb_13 hM_284 hn218 rfl (by decide) rfl (nI_toInt (by omega))
                                  have hP : va_P D vwCl ([(za, .inr (13, [.int 0, .ref z1, .int (nI z2), .int (nI z3), .int z4, .int z5, .ref z6, .ref z7, .ref z8, .ref z9, .int (nI z10), .ref z11, .ref z12, .ref z13, .ref z14, .ref z15, .int (nI z16), .ref z17, .int z18, .ref z19]))] ++ va_pl L M_296) H_288 := by rw [eM_296]; exact hP
                                  have hD : va_D A ([(za, .inr (13, [.int 0, .ref z1, .int (nI z2), .int (nI z3), .int z4, .int z5, .ref z6, .ref z7, .ref z8, .ref z9, .int (nI z10), .ref z11, .ref z12, .ref z13, .ref z14, .ref z15, .int (nI z16), .ref z17, .int z18, .ref z19]))] ++ va_pl L M_296) := by rw [eM_296]; exact hD
                                  have hW : WOM cy K L M_296 := by rw [eM_296]; exact hW.up_12 hb_13 ⟨_, rfl, hn_292, hk_290⟩
                                  have hF : fr K L [12, 14, 15, 32, 42, 45, 46] M M_296 := by rw [eM_296]; exact hF.up hb_13 (by decide)
                                  have hG : fG K L [1, 7, 8, 13, 14, 15, 16, 17, 18] M M_296 := by rw [eM_296]; exact hG.up hM_284 (by decide)
                                  have hM_297 : M_296 b11 = .inr (12, fs218.set 17 (.int (nI (v219 + 1)))) := by rw [eM_296]; exact va_up_self _ _ _
                                  have hM_298 : M_296 v222 = .inl (cy 14, 120, .inl (f_285)) := by rw [eM_296, va_up_ne _ _ (hc222.neT hb_13 (by decide))]; exact hM_282
                                  have hM_299 : M_296 v220 = .inl (cy 14, 120, .inl (f_278)) := by rw [eM_296, va_up_ne _ _ (hc220.neT hb_13 (by decide))]; exact hM_283
                                  refine lv_aload_n hx hb dX13_close_217 rfl (lv_at hl 4 rfl) ?_
                                  refine pg_getN (D := D) (ci := 12) (v := .ref v222) (C := RX12) (T := TX12) (N := 51) hx hb hg inG12 hown hK hP hb_13.1 hM_297 rfl 45 (by decide) (hN.use (Cond.fieldLinkNest RX13 268 RX12 "stretchDays" "[I" RX13) 54 rfl rfl) (fun _ h9 => h9) hv_294 dX13_close_218 ?_
                                  refine lv_aload_n hx hb dX13_close_221 rfl (lv_at hl 4 rfl) ?_
                                  refine pg_getN (D := D) (ci := 12) (v := .int (nI (v219 + 1))) (C := RX12) (T := TX12) (N := 51) hx hb hg inG12 hown hK hP hb_13.1 hM_297 rfl 17 (by decide) (hN.use (Cond.fieldLinkNest RX13 256 RX12 "stretches" "I" RX13) 26 rfl rfl) (fun _ h9 => h9) hs_291 dX13_close_222 ?_
                                  refine lv_iconst (v := 1) hx hb dX13_close_225 (by decide) ?_
                                  refine lv_isub hx hb dX13_close_226 ?_
                                  refine lv_topi (fun f_300 ef_300 => ?_)
                                  obtain rfl : f_300 = (nI ((v219 + 1) - 1)) := ef_300.trans (nI_prd (by omega))
                                  refine lv_dup2_11 hx hb dX13_close_227 rfl rfl ?_
                                  have hi_301 : vp_in (nI ((v219 + 1) - 1)) 120 := (inbN ((v219 + 1) - 1) 120 (by omega) (by omega))
                                  refine pg_iald hx hb hK hP hc222.1 0 hM_298 rfl hi_301 dX13_close_228 ?_
                                  have hp_302 := hf_286 _ (vp_lt hi_301)
                                  obtain ⟨c_303, hc_304, ec_305⟩ := hp_302
                                  rw [ec_305]
                                  have hy45 : (upd gqw78 ((nI v219) : Int32).toNatClampNeg 0) = f_285 := (congrFun hV.2.2.1 45).symm.trans (ax_of hM_297 (by decide) hv_294 hM_298)
                                  have hec : (upd gqw78 ((nI v219) : Int32).toNatClampNeg 0) ((nI ((v219 + 1) - 1)) : Int32).toNatClampNeg = nI c_303 := by rw [hy45]; exact ec_305
                                  have hcc : c_303 = 0 := updz (n := v219) (nI_cl (by omega)) ((nI_cl (by omega)).trans (by omega)) hec (by omega)
                                  refine lv_iconst (v := 1) hx hb dX13_close_229 (by decide) ?_
                                  refine lv_iadd hx hb dX13_close_230 ?_
                                  refine lv_topi (fun f_306 ef_306 => ?_)
                                  obtain rfl : f_306 = (nI (c_303 + 1)) := ef_306.trans (nI_add c_303 1)
                                  refine pg_iast hx hb hK hP hD hS hc222.1 0 hM_298 rfl (inbN ((v219 + 1) - 1) 120 (by omega) (by omega)) dX13_close_231 (fun H_307 locs hP hD hS => ?_)
                                  obtain ⟨M_308, eM_308⟩ : ∃ M1 : Hp, M1 = va_up M_296 v222 (.inl (cy 14, 120, .inl (upd f_285 ((nI ((v219 + 1) - 1)) : Int32).toNatClampNeg (nI (c_303 + 1))))) := ⟨_, rfl⟩
                                  have hy45 : (upd gqw78 ((nI v219) : Int32).toNatClampNeg 0) = f_285 := (congrFun hV.2.2.1 45).symm.trans (ax_of hM_297 (by decide) hv_294 hM_298)
                                  have hV : VW K L M M_308 b11 (va_up (va_up (fx M b11) 17 ((gnw78 : Nat) : Int)) 17 (((v219 + 1) : Nat) : Int)) (va_up (va_up (va_up (va_up (va_up (ax M b11) 44 gpw78) 45 gqw78) 44 (upd gpw78 ((nI v219) : Int32).toNatClampNeg (nI v6w78))) 45 (upd gqw78 ((nI v219) : Int32).toNatClampNeg 0)) 45 (upd (upd gqw78 ((nI v219) : Int32).toNatClampNeg 0) ((nI ((v219 + 1) - 1)) : Int32).toNatClampNeg (nI (c_303 + 1)))) := by rw [eM_308]; exact hV.ast (j := 45) hW hb_13 hM_297 (by decide) hv_294 hc222 hM_298
                                  have hP : va_P D vwCl ([(za, .inr (13, [.int 0, .ref z1, .int (nI z2), .int (nI z3), .int z4, .int z5, .ref z6, .ref z7, .ref z8, .ref z9, .int (nI z10), .ref z11, .ref z12, .ref z13, .ref z14, .ref z15, .int (nI z16), .ref z17, .int z18, .ref z19]))] ++ va_pl L M_308) H_307 := by rw [eM_308]; exact hP
                                  have hD : va_D A ([(za, .inr (13, [.int 0, .ref z1, .int (nI z2), .int (nI z3), .int z4, .int z5, .ref z6, .ref z7, .ref z8, .ref z9, .int (nI z10), .ref z11, .ref z12, .ref z13, .ref z14, .ref z15, .int (nI z16), .ref z17, .int z18, .ref z19]))] ++ va_pl L M_308) := by rw [eM_308]; exact hD
                                  have hW : WOM cy K L M_308 := by rw [eM_308]; exact hW.up_46 hc222 ⟨_, rfl, (updP (P := fun z => ∃ c : Nat, c < 1001 ∧ z = nI c) hf_286 ⟨(c_303 + 1), by omega, rfl⟩)⟩
                                  have hF : fr K L [12, 14, 15, 32, 42, 45, 46] M M_308 := by rw [eM_308]; exact hF.up hc222 (by decide)
                                  have hG : fG K L [1, 7, 8, 13, 14, 15, 16, 17, 18] M M_308 := by rw [eM_308]; exact hG.arr hc222 (by decide)
                                  have hM_309 : M_308 v222 = .inl (cy 14, 120, .inl (upd f_285 ((nI ((v219 + 1) - 1)) : Int32).toNatClampNeg (nI (c_303 + 1)))) := by rw [eM_308]; exact va_up_self _ _ _
                                  have hM_310 : M_308 b11 = .inr (12, fs218.set 17 (.int (nI (v219 + 1)))) := by rw [eM_308, va_up_ne _ _ (hb_13.neT hc222 (by decide))]; exact hM_297
                                  have hM_311 : M_308 v220 = .inl (cy 14, 120, .inl (f_278)) := by rw [eM_308, va_up_ne _ _ (hc220.neT hc222 (by decide))]; exact hM_299
                                  have hf_313 : ∀ j, j < 120 → ∃ c : Nat, c < 1001 ∧ (upd f_285 ((nI ((v219 + 1) - 1)) : Int32).toNatClampNeg (nI (c_303 + 1))) j = nI c := (updP (P := fun z => ∃ c : Nat, c < 1001 ∧ z = nI c) hf_286 ⟨(c_303 + 1), by omega, rfl⟩)
                                  obtain ⟨f_312, ef_312⟩ : ∃ f : Nat → Int32, f = upd f_285 ((nI ((v219 + 1) - 1)) : Int32).toNatClampNeg (nI (c_303 + 1)) := ⟨_, rfl⟩
                                  rw [← ef_312] at hM_309 hf_313
                                  refine lv_iinc (v := (nI (v6w78 + 1))) (lv' := [(6, .int (nI (v6w78 + 1))), (5, .int (-1)), (4, .int (nI c_31)), (3, .int 0), (2, .ref b11), (0, .ref za), (1, .int k1)]) hx hb dX13_close_232 hl (k := 0) rfl (nI_1 v6w78) (by decide) rfl (fun ls hl => ?_)
                                  refine lv_goto (tgt := 164) hx hb dX13_close_235 (by decide) ?_
                                  exact ih_76 (v6w78 + 1) (v219 + 1) (upd gpw78 ((nI v219) : Int32).toNatClampNeg (nI v6w78)) (upd (upd gqw78 ((nI v219) : Int32).toNatClampNeg 0) ((nI ((v219 + 1) - 1)) : Int32).toNatClampNeg (nI (c_303 + 1))) M_308 H_307 _ _ (by omega) (by omega) (by have h := SD.new hSD (by omega) (show (nI v219).toNatClampNeg = gnw78 from (nI_cl (by omega)).trans (by omega)) (show (nI ((v219 + 1) - 1)).toNatClampNeg = gnw78 from (nI_cl (by omega)).trans (by omega)) hcc; rw [← hgn] at h; exact h) hW hF hG (by have h := hV; simp only [va_up_up] at h; rw [va_up_4] at h; exact h) hP hD hS (lv_sub hl [0, 1, 2, 3, 4, 5, 6] rfl)
                                · have hz := rfl (a := 0)
                                  refine lv_if_eq (tgt := 217) hx hb dX13_close_183 (by decide) (fun _ => ?_) (fun c_314 => absurd c_314 (by decide))
                                  refine lv_aload_n hx hb dX13_close_217 rfl (lv_at hl 4 rfl) ?_
                                  refine pg_getN (D := D) (ci := 12) (v := .ref v222) (C := RX12) (T := TX12) (N := 51) hx hb hg inG12 hown hK hP hb_13.1 hM218 rfl 45 (by decide) (hN.use (Cond.fieldLinkNest RX13 268 RX12 "stretchDays" "[I" RX13) 54 rfl rfl) (fun _ h9 => h9) hv222 dX13_close_218 ?_
                                  refine lv_aload_n hx hb dX13_close_221 rfl (lv_at hl 4 rfl) ?_
                                  refine pg_getN (D := D) (ci := 12) (v := .int (nI v219)) (C := RX12) (T := TX12) (N := 51) hx hb hg inG12 hown hK hP hb_13.1 hM218 rfl 17 (by decide) (hN.use (Cond.fieldLinkNest RX13 256 RX12 "stretches" "I" RX13) 26 rfl rfl) (fun _ h9 => h9) hv219 dX13_close_222 ?_
                                  refine lv_iconst (v := 1) hx hb dX13_close_225 (by decide) ?_
                                  refine lv_isub hx hb dX13_close_226 ?_
                                  refine lv_topi (fun f_315 ef_315 => ?_)
                                  obtain rfl : f_315 = (nI (v219 - 1)) := ef_315.trans (nI_prd (by omega))
                                  refine lv_dup2_11 hx hb dX13_close_227 rfl rfl ?_
                                  have hi_316 : vp_in (nI (v219 - 1)) 120 := (inbN (v219 - 1) 120 (by omega) (by omega))
                                  refine pg_iald hx hb hK hP hc222.1 0 hM223 rfl hi_316 dX13_close_228 ?_
                                  have hp_317 := hf223 _ (vp_lt hi_316)
                                  obtain ⟨c_318, hc_319, ec_320⟩ := hp_317
                                  rw [ec_320]
                                  have hy45 : gqw78 = f223 := (congrFun hV.2.2.1 45).symm.trans (ax_of hM218 (by decide) hv222 hM223)
                                  have hec : gqw78 ((nI (v219 - 1)) : Int32).toNatClampNeg = nI c_318 := by rw [hy45]; exact ec_320
                                  have hcc : c_318 ≤ v6w78 := SD.c hSD (by omega) ((nI_cl (by omega)).trans (by omega)) hec (by omega)
                                  refine lv_iconst (v := 1) hx hb dX13_close_229 (by decide) ?_
                                  refine lv_iadd hx hb dX13_close_230 ?_
                                  refine lv_topi (fun f_321 ef_321 => ?_)
                                  obtain rfl : f_321 = (nI (c_318 + 1)) := ef_321.trans (nI_add c_318 1)
                                  refine pg_iast hx hb hK hP hD hS hc222.1 0 hM223 rfl (inbN (v219 - 1) 120 (by omega) (by omega)) dX13_close_231 (fun H_322 locs hP hD hS => ?_)
                                  obtain ⟨M_323, eM_323⟩ : ∃ M1 : Hp, M1 = va_up M_81 v222 (.inl (cy 14, 120, .inl (upd f223 ((nI (v219 - 1)) : Int32).toNatClampNeg (nI (c_318 + 1))))) := ⟨_, rfl⟩
                                  have hy45 : gqw78 = f223 := (congrFun hV.2.2.1 45).symm.trans (ax_of hM218 (by decide) hv222 hM223)
                                  have hV : VW K L M M_323 b11 (va_up (fx M b11) 17 ((gnw78 : Nat) : Int)) (va_up (va_up (va_up (ax M b11) 44 gpw78) 45 gqw78) 45 (upd gqw78 ((nI (v219 - 1)) : Int32).toNatClampNeg (nI (c_318 + 1)))) := by rw [eM_323]; exact hV.ast (j := 45) hW hb_13 hM218 (by decide) hv222 hc222 hM223
                                  have hP : va_P D vwCl ([(za, .inr (13, [.int 0, .ref z1, .int (nI z2), .int (nI z3), .int z4, .int z5, .ref z6, .ref z7, .ref z8, .ref z9, .int (nI z10), .ref z11, .ref z12, .ref z13, .ref z14, .ref z15, .int (nI z16), .ref z17, .int z18, .ref z19]))] ++ va_pl L M_323) H_322 := by rw [eM_323]; exact hP
                                  have hD : va_D A ([(za, .inr (13, [.int 0, .ref z1, .int (nI z2), .int (nI z3), .int z4, .int z5, .ref z6, .ref z7, .ref z8, .ref z9, .int (nI z10), .ref z11, .ref z12, .ref z13, .ref z14, .ref z15, .int (nI z16), .ref z17, .int z18, .ref z19]))] ++ va_pl L M_323) := by rw [eM_323]; exact hD
                                  have hW : WOM cy K L M_323 := by rw [eM_323]; exact hW.up_46 hc222 ⟨_, rfl, (updP (P := fun z => ∃ c : Nat, c < 1001 ∧ z = nI c) hf223 ⟨(c_318 + 1), by omega, rfl⟩)⟩
                                  have hF : fr K L [12, 14, 15, 32, 42, 45, 46] M M_323 := by rw [eM_323]; exact hF.up hc222 (by decide)
                                  have hG : fG K L [1, 7, 8, 13, 14, 15, 16, 17, 18] M M_323 := by rw [eM_323]; exact hG.arr hc222 (by decide)
                                  have hM_324 : M_323 v222 = .inl (cy 14, 120, .inl (upd f223 ((nI (v219 - 1)) : Int32).toNatClampNeg (nI (c_318 + 1)))) := by rw [eM_323]; exact va_up_self _ _ _
                                  have hM_325 : M_323 b11 = .inr (12, fs218) := by rw [eM_323, va_up_ne _ _ (hb_13.neT hc222 (by decide))]; exact hM218
                                  have hM_326 : M_323 v220 = .inl (cy 14, 120, .inl (f221)) := by rw [eM_323, va_up_ne _ _ (hc220.neT hc222 (by decide))]; exact hM221
                                  have hf_328 : ∀ j, j < 120 → ∃ c : Nat, c < 1001 ∧ (upd f223 ((nI (v219 - 1)) : Int32).toNatClampNeg (nI (c_318 + 1))) j = nI c := (updP (P := fun z => ∃ c : Nat, c < 1001 ∧ z = nI c) hf223 ⟨(c_318 + 1), by omega, rfl⟩)
                                  obtain ⟨f_327, ef_327⟩ : ∃ f : Nat → Int32, f = upd f223 ((nI (v219 - 1)) : Int32).toNatClampNeg (nI (c_318 + 1)) := ⟨_, rfl⟩
                                  rw [← ef_327] at hM_324 hf_328
                                  refine lv_iinc (v := (nI (v6w78 + 1))) (lv' := [(6, .int (nI (v6w78 + 1))), (5, .int (-1)), (4, .int (nI c_31)), (3, .int 0), (2, .ref b11), (0, .ref za), (1, .int k1)]) hx hb dX13_close_232 hl (k := 0) rfl (nI_1 v6w78) (by decide) rfl (fun ls hl => ?_)
                                  refine lv_goto (tgt := 164) hx hb dX13_close_235 (by decide) ?_
                                  exact ih_76 (v6w78 + 1) gnw78 gpw78 (upd gqw78 ((nI (v219 - 1)) : Int32).toNatClampNeg (nI (c_318 + 1))) M_323 H_322 _ _ (by omega) (by omega) (SD.old hSD (by omega) ((nI_cl (by omega)).trans (by omega)) hec (by omega)) hW hF hG (by have h := hV; simp only [va_up_up] at h; exact h) hP hD hS (lv_sub hl [0, 1, 2, 3, 4, 5, 6] rfl)
                        exact key_75 (1001 - 0 + 1) 0 0 (ax M b11 44) (ax M b11 45) M_70 H_71 _ _ (by omega) (by omega) (SD.rf _ _ _) hW hF hG (by rw [va_up_id, va_up_id]; exact hV) hP hD hS (lv_sub hl [0, 1, 2, 3, 4, 5, 6] rfl)
                      · have hz := rfl (a := 0)
                        have n_329 : ¬ (24 ≤ v6w68) := fun q => c_73 ((iLE (a := 24) (b := v6w68) (by omega) (by omega)).mpr q)
                        refine lv_aload_n hx hb dX13_close_147 rfl (lv_at hl 4 rfl) ?_
                        obtain ⟨v330, hv330, hc330⟩ : ∃ v : Nat, (fs14.set 17 (.int 0))[33]? = some (.ref v : Value) ∧ isk K L v 15 24 := hk_53 33 (by decide)
                        refine pg_getN (D := D) (ci := 12) (v := .ref v330) (C := RX12) (T := TX12) (N := 51) hx hb hg inG12 hown hK hP hb_13.1 hM_72 rfl 33 (by decide) (hN.use (Cond.fieldLinkNest RX13 259 RX12 "dues" "[J" RX13) 42 rfl rfl) (fun _ h9 => h9) hv330 dX13_close_148 ?_
                        refine lv_iload hx hb dX13_close_151 (lv_at hl 0 rfl) ?_
                        refine lv_lconst (v := 0) hx hb dX13_close_153 (by decide) ?_
                        obtain ⟨f331, hM331⟩ := hW.open_15 hc330
                        refine pg_last hx hb hK hP hD hS hc330.1 1 hM331 rfl (inbN v6w68 24 (by omega) (by omega)) dX13_close_154 (fun H_332 locs hP hD hS => ?_)
                        obtain ⟨M_333, eM_333⟩ : ∃ M1 : Hp, M1 = va_up M_70 v330 (.inl (cy 15, 24, .inr (.inl (vp_updL f331 ((nI v6w68) : Int32).toNatClampNeg 0)))) := ⟨_, rfl⟩
                        have hV : VW K L M M_333 b11 (va_up (fx M b11) 17 (0 : Int)) (ax M b11) := by rw [eM_333]; exact hV.oth hW hb_13 hc330 (by decide)
                        have hP : va_P D vwCl ([(za, .inr (13, [.int 0, .ref z1, .int (nI z2), .int (nI z3), .int z4, .int z5, .ref z6, .ref z7, .ref z8, .ref z9, .int (nI z10), .ref z11, .ref z12, .ref z13, .ref z14, .ref z15, .int (nI z16), .ref z17, .int z18, .ref z19]))] ++ va_pl L M_333) H_332 := by rw [eM_333]; exact hP
                        have hD : va_D A ([(za, .inr (13, [.int 0, .ref z1, .int (nI z2), .int (nI z3), .int z4, .int z5, .ref z6, .ref z7, .ref z8, .ref z9, .int (nI z10), .ref z11, .ref z12, .ref z13, .ref z14, .ref z15, .int (nI z16), .ref z17, .int z18, .ref z19]))] ++ va_pl L M_333) := by rw [eM_333]; exact hD
                        have hW : WOM cy K L M_333 := by rw [eM_333]; exact hW.up_15 hc330 ⟨_, rfl⟩
                        have hF : fr K L [12, 14, 15, 32, 42, 45, 46] M M_333 := by rw [eM_333]; exact hF.up hc330 (by decide)
                        have hG : fG K L [1, 7, 8, 13, 14, 15, 16, 17, 18] M M_333 := by rw [eM_333]; exact hG.arr hc330 (by decide)
                        have hM_334 : M_333 v330 = .inl (cy 15, 24, .inr (.inl (vp_updL f331 ((nI v6w68) : Int32).toNatClampNeg 0))) := by rw [eM_333]; exact va_up_self _ _ _
                        have hM_335 : M_333 b11 = .inr (12, fs14.set 17 (.int 0)) := by rw [eM_333, va_up_ne _ _ (hb_13.neT hc330 (by decide))]; exact hM_72
                        obtain ⟨f_336, ef_336⟩ : ∃ f : Nat → Int64, f = vp_updL f331 ((nI v6w68) : Int32).toNatClampNeg 0 := ⟨_, rfl⟩
                        rw [← ef_336] at hM_334
                        refine lv_iinc (v := (nI (v6w68 + 1))) (lv' := [(6, .int (nI (v6w68 + 1))), (5, .int (-1)), (4, .int (nI c_31)), (3, .int 0), (2, .ref b11), (0, .ref za), (1, .int k1)]) hx hb dX13_close_155 hl (k := 0) rfl (nI_1 v6w68) (by decide) rfl (fun ls hl => ?_)
                        refine lv_goto (tgt := 140) hx hb dX13_close_158 (by decide) ?_
                        exact ih_66 (v6w68 + 1) M_333 H_332 _ _ (by omega) hM_335 (by omega) hW hF hG hV hP hD hS (lv_sub hl [0, 1, 2, 3, 4, 5, 6] rfl)
                  exact key_65 (24 - 0 + 1) 0 M_63 H_51 _ _ (by omega) hM_64 (by omega) hW hF hG hV hP hD hS (lv_sub hl [0, 1, 2, 3, 4, 5, 6] rfl)
                · have hz := rfl (a := 0)
                  refine lv_istore (lv' := [(5, .int (nI j_48)), (4, .int (nI c_31)), (3, .int 0), (2, .ref b11), (0, .ref za), (1, .int k1)]) hx hb dX13_close_115 hl (by decide) rfl (fun ls hl => ?_)
                  refine lv_iload hx hb dX13_close_117 (lv_at hl 0 rfl) ?_
                  refine lv_iconst (v := (-1)) hx hb dX13_close_119 (by decide) ?_
                  refine lv_icmp_eq (tgt := 132) hx hb dX13_close_120 (by decide) (fun c_337 => absurd c_337 (nI_ne_m1 (by omega))) (fun _ => ?_)
                  refine lv_aload_n hx hb dX13_close_123 rfl (lv_at hl 4 rfl) ?_
                  refine lv_bipush (v := 7) hx hb dX13_close_124 (by decide) ?_
                  refine lv_iload hx hb dX13_close_126 (lv_at hl 0 rfl) ?_
                  have hPc := hP.sub (ws' := [(za, .inr (13, [.int 0, .ref z1, .int (nI z2), .int (nI z3), .int z4, .int z5, .ref z6, .ref z7, .ref z8, .ref z9, .int (nI z10), .ref z11, .ref z12, .ref z13, .ref z14, .ref z15, .int (nI z16), .ref z17, .int z18, .ref z19]))]) [0] rfl
                  have hDc := hD.sub (ws' := [(za, .inr (13, [.int 0, .ref z1, .int (nI z2), .int (nI z3), .int z4, .int z5, .ref z6, .ref z7, .ref z8, .ref z9, .int (nI z10), .ref z11, .ref z12, .ref z13, .ref z14, .ref z15, .int (nI z16), .ref z17, .int z18, .ref z19]))]) [0] (by decide) rfl
                  have hKc := hK.sub (tys' := []) [] rfl
                  have hFc := va_free (wc := [(za, .inr (13, [.int 0, .ref z1, .int (nI z2), .int (nI z3), .int z4, .int z5, .ref z6, .ref z7, .ref z8, .ref z9, .int (nI z10), .ref z11, .ref z12, .ref z13, .ref z14, .ref z15, .int (nI z16), .ref z17, .int z18, .ref z19]))]) hD hS hA [0] rfl
                  refine va_calli (va_runV (As := [.int 7, .int (nI j_48)]) (rest := []) ⟨hx, hb, hml, hown, hg⟩ (m_refusedAt l D H_44.size za 0 z1 (nI z2) (nI z3) z4 z5 z6 z7 z8 z9 (nI z10) z11 z12 z13 z14 z15 (nI z16) z17 z18 z19 7 (nI j_48)) (cwV 2 hg (gV wd_882 wd_883 wd_884 wd_717 wd_885) rfl rfl rfl (by decide +kernel) ⟨(Nat.le_trans (Nat.le_of_ble_eq_true rfl) hRf), (Nat.le_trans (Nat.le_of_ble_eq_true rfl) hRl)⟩) ⟨Pr.blind, va_recv hK hP (ci := 13) (q0 := 0) rfl rfl, fun U hU hW => ⟨rfl, Pr.at hPc hKc hDc hN hU hW⟩⟩ rfl rfl hl.1 rfl (lv_room (Nat.le_of_ble_eq_true rfl)) dX13_close_128 ⟨(Nat.le_trans (Nat.le_of_ble_eq_true rfl) hRc), (Nat.le_trans (Nat.le_of_ble_eq_true rfl) hRs)⟩) hS (fun q _ h => hFc q h) hFc (fun r_339 M_340 t H_338 locs ht hvm hw hB hz1 hk1 hS => ?_)
                  have hp_341 := hw
                  obtain ⟨hP1, hK1, hD1⟩ := hB
                  rw [ht] at hP1
                  obtain ⟨hP, hD⟩ := va_joinQ (X := [(za, .inr (13, [.int 0, .ref z1, .int (nI z2), .int (nI z3), .int z4, .int z5, .ref z6, .ref z7, .ref z8, .ref z9, .int (nI z10), .ref z11, .ref z12, .ref z13, .ref z14, .ref z15, .int (nI z16), .ref z17, .int z18, .ref z19]))]) (cx := [(za, .inr (13, [.int 0, .ref z1, .int (nI z2), .int (nI z3), .int z4, .int z5, .ref z6, .ref z7, .ref z8, .ref z9, .int (nI z10), .ref z11, .ref z12, .ref z13, .ref z14, .ref z15, .int (nI z16), .ref z17, .int z18, .ref z19]))]) (wr := []) (w1 := [(za, .inr (13, [.int 0, .ref z1, .int (nI z2), .int (nI z3), .int 7, .int (nI j_48), .ref z6, .ref z7, .ref z8, .ref z9, .int (nI z10), .ref z11, .ref z12, .ref z13, .ref z14, .ref z15, .int (nI z16), .ref z17, .int z18, .ref z19]))]) (pl := va_pl L M_39) hP hD [0] [] rfl rfl (by decide) (by decide) hk1 hFc hP1 hD1
                  have hP : va_P D vwCl ([(za, .inr (13, [.int 0, .ref z1, .int (nI z2), .int (nI z3), .int 7, .int (nI j_48), .ref z6, .ref z7, .ref z8, .ref z9, .int (nI z10), .ref z11, .ref z12, .ref z13, .ref z14, .ref z15, .int (nI z16), .ref z17, .int z18, .ref z19]))] ++ va_pl L M_39) H_338 := hP
                  have hD : va_D A ([(za, .inr (13, [.int 0, .ref z1, .int (nI z2), .int (nI z3), .int 7, .int (nI j_48), .ref z6, .ref z7, .ref z8, .ref z9, .int (nI z10), .ref z11, .ref z12, .ref z13, .ref z14, .ref z15, .int (nI z16), .ref z17, .int z18, .ref z19]))] ++ va_pl L M_39) := hD
                  have hq := Eq.symm hp_341
                  subst hq
                  have hA9 : HA (ax M b11 2) (ax M b11 3) := hAT.1
                  have hB9 : HB (fx M b11 16) (fx M b11 14) (ax M b11 3) (ax M b11 43) := hAT.2.1
                  have hC9 : HC (fx M b11 10) (ax M b11 22) (ax M b11 23) := hAT.2.2.1
                  have hD9 : HD (fx M b11 0) (fx M b11 11) (fx M b11 15) (ax M b11 34) (ax M b11 41) := hAT.2.2.2.1
                  have hE9 : HE (fx M b11 0) (fx M b11 1) (fx M b11 12) (fx M b11 13) (ax M b11 37) := hAT.2.2.2.2
                  have hH9 : HI (fx M b11) (ax M b11) := ⟨hA9, hB9, hC9, hD9, hE9⟩
                  have hGI9 : GI K L z1 z2 M_39 := GI.fin hW0 i1 b2 hGI hact hV (hF.at i1 (by decide)) hH9
                  rw [hQ]
                  exact W.iret (v := (-1)) hx hb hr (fun t ht hW9 => ⟨⟨(-1), M_39, rfl, ⟨hW, hF, hG, hGI9, trivial⟩, ⟨7, (nI j_48), z16, (by omega), by rw [ht]; exact hP, hD⟩⟩, hS.F ht⟩) hS.2.2 dX13_close_131
              · have hz := rfl (a := 0)
                have n_342 : ¬ (c_31 < v5w37) := fun q => c_42 ((iLT (a := c_31) (b := v5w37) (by omega) (by omega)).mpr q)
                refine lv_aload_n hx hb dX13_close_85 rfl (lv_at hl 3 rfl) ?_
                refine lv_iload hx hb dX13_close_86 (lv_at hl 0 rfl) ?_
                have hPc : va_P D vwCl ([] ++ va_pl L M_39) H_40 := hP.part (cx := []) [] rfl
                have hDc : va_D A ([] ++ va_pl L M_39) := hD.part (cx := []) [] (by decide) rfl
                have hFc : ∀ q, va_A ([] ++ va_pl L M_39) H_40.size q → A q := pg_free hDc hS hA
                refine va_calli (va_runV (As := [.int (nI v5w37)]) (rest := []) ⟨hx, hb, hml, hown, hg⟩ (r_X12_isOpen l D cy K L M_39 H_40.size b11 v5w37  hW hb_13 (by omega)) (cwV 1 hg (gV wd_752 wd_753 wd_754 wd_737 wd_755) rfl rfl rfl (by decide +kernel) ⟨(Nat.le_trans (Nat.le_of_ble_eq_true rfl) hRf), (Nat.le_trans (Nat.le_of_ble_eq_true rfl) hRl)⟩) ⟨PG.blind, pg_recv hK hP hb_13.1 hM_41 rfl, fun U hU hW => ⟨rfl, PG.at hPc hK hDc hN hU hW⟩⟩ rfl rfl hl.1 rfl (lv_room (Nat.le_of_ble_eq_true rfl)) dX13_close_88 ⟨(Nat.le_trans (Nat.le_of_ble_eq_true rfl) hRc), (Nat.le_trans (Nat.le_of_ble_eq_true rfl) hRs)⟩) hS (fun q _ h => hFc q h) hFc (fun r_344 M_345 t H_343 locs ht hvm hw hB hz1 hk1 hS => ?_)
                have hp_346 := hw
                obtain ⟨hP1, hD1⟩ := hB
                rw [ht] at hP1
                obtain ⟨hP, hD⟩ := va_joinP (X := [(za, .inr (13, [.int 0, .ref z1, .int (nI z2), .int (nI z3), .int z4, .int z5, .ref z6, .ref z7, .ref z8, .ref z9, .int (nI z10), .ref z11, .ref z12, .ref z13, .ref z14, .ref z15, .int (nI z16), .ref z17, .int z18, .ref z19]))]) (cx := []) (wr := [(za, .inr (13, [.int 0, .ref z1, .int (nI z2), .int (nI z3), .int z4, .int z5, .ref z6, .ref z7, .ref z8, .ref z9, .int (nI z10), .ref z11, .ref z12, .ref z13, .ref z14, .ref z15, .int (nI z16), .ref z17, .int z18, .ref z19]))]) (rx := []) (pl := va_pl L M_39) (pl1 := va_pl L M_39) hP hD [] [0] rfl rfl (by decide) (by decide) hk1 hFc hP1 hD1
                have hP : va_P D vwCl ([(za, .inr (13, [.int 0, .ref z1, .int (nI z2), .int (nI z3), .int z4, .int z5, .ref z6, .ref z7, .ref z8, .ref z9, .int (nI z10), .ref z11, .ref z12, .ref z13, .ref z14, .ref z15, .int (nI z16), .ref z17, .int z18, .ref z19]))] ++ va_pl L M_39) H_343 := hP
                have hD : va_D A ([(za, .inr (13, [.int 0, .ref z1, .int (nI z2), .int (nI z3), .int z4, .int z5, .ref z6, .ref z7, .ref z8, .ref z9, .int (nI z10), .ref z11, .ref z12, .ref z13, .ref z14, .ref z15, .int (nI z16), .ref z17, .int z18, .ref z19]))] ++ va_pl L M_39) := hD
                rcases hp_346 with rfl | rfl
                · have hz := rfl (a := 0)
                  refine lv_if_eq (tgt := 102) hx hb dX13_close_91 (by decide) (fun c_347 => absurd c_347 (by decide)) (fun _ => ?_)
                  refine lv_aload_n hx hb dX13_close_94 rfl (lv_at hl 4 rfl) ?_
                  refine lv_iconst (v := 5) hx hb dX13_close_95 (by decide) ?_
                  refine lv_iload hx hb dX13_close_96 (lv_at hl 0 rfl) ?_
                  have hPc := hP.sub (ws' := [(za, .inr (13, [.int 0, .ref z1, .int (nI z2), .int (nI z3), .int z4, .int z5, .ref z6, .ref z7, .ref z8, .ref z9, .int (nI z10), .ref z11, .ref z12, .ref z13, .ref z14, .ref z15, .int (nI z16), .ref z17, .int z18, .ref z19]))]) [0] rfl
                  have hDc := hD.sub (ws' := [(za, .inr (13, [.int 0, .ref z1, .int (nI z2), .int (nI z3), .int z4, .int z5, .ref z6, .ref z7, .ref z8, .ref z9, .int (nI z10), .ref z11, .ref z12, .ref z13, .ref z14, .ref z15, .int (nI z16), .ref z17, .int z18, .ref z19]))]) [0] (by decide) rfl
                  have hKc := hK.sub (tys' := []) [] rfl
                  have hFc := va_free (wc := [(za, .inr (13, [.int 0, .ref z1, .int (nI z2), .int (nI z3), .int z4, .int z5, .ref z6, .ref z7, .ref z8, .ref z9, .int (nI z10), .ref z11, .ref z12, .ref z13, .ref z14, .ref z15, .int (nI z16), .ref z17, .int z18, .ref z19]))]) hD hS hA [0] rfl
                  refine va_calli (va_runV (As := [.int 5, .int (nI v5w37)]) (rest := []) ⟨hx, hb, hml, hown, hg⟩ (m_refusedAt l D H_343.size za 0 z1 (nI z2) (nI z3) z4 z5 z6 z7 z8 z9 (nI z10) z11 z12 z13 z14 z15 (nI z16) z17 z18 z19 5 (nI v5w37)) (cwV 2 hg (gV wd_882 wd_883 wd_884 wd_717 wd_885) rfl rfl rfl (by decide +kernel) ⟨(Nat.le_trans (Nat.le_of_ble_eq_true rfl) hRf), (Nat.le_trans (Nat.le_of_ble_eq_true rfl) hRl)⟩) ⟨Pr.blind, va_recv hK hP (ci := 13) (q0 := 0) rfl rfl, fun U hU hW => ⟨rfl, Pr.at hPc hKc hDc hN hU hW⟩⟩ rfl rfl hl.1 rfl (lv_room (Nat.le_of_ble_eq_true rfl)) dX13_close_98 ⟨(Nat.le_trans (Nat.le_of_ble_eq_true rfl) hRc), (Nat.le_trans (Nat.le_of_ble_eq_true rfl) hRs)⟩) hS (fun q _ h => hFc q h) hFc (fun r_349 M_350 t H_348 locs ht hvm hw hB hz1 hk1 hS => ?_)
                  have hp_351 := hw
                  obtain ⟨hP1, hK1, hD1⟩ := hB
                  rw [ht] at hP1
                  obtain ⟨hP, hD⟩ := va_joinQ (X := [(za, .inr (13, [.int 0, .ref z1, .int (nI z2), .int (nI z3), .int z4, .int z5, .ref z6, .ref z7, .ref z8, .ref z9, .int (nI z10), .ref z11, .ref z12, .ref z13, .ref z14, .ref z15, .int (nI z16), .ref z17, .int z18, .ref z19]))]) (cx := [(za, .inr (13, [.int 0, .ref z1, .int (nI z2), .int (nI z3), .int z4, .int z5, .ref z6, .ref z7, .ref z8, .ref z9, .int (nI z10), .ref z11, .ref z12, .ref z13, .ref z14, .ref z15, .int (nI z16), .ref z17, .int z18, .ref z19]))]) (wr := []) (w1 := [(za, .inr (13, [.int 0, .ref z1, .int (nI z2), .int (nI z3), .int 5, .int (nI v5w37), .ref z6, .ref z7, .ref z8, .ref z9, .int (nI z10), .ref z11, .ref z12, .ref z13, .ref z14, .ref z15, .int (nI z16), .ref z17, .int z18, .ref z19]))]) (pl := va_pl L M_39) hP hD [0] [] rfl rfl (by decide) (by decide) hk1 hFc hP1 hD1
                  have hP : va_P D vwCl ([(za, .inr (13, [.int 0, .ref z1, .int (nI z2), .int (nI z3), .int 5, .int (nI v5w37), .ref z6, .ref z7, .ref z8, .ref z9, .int (nI z10), .ref z11, .ref z12, .ref z13, .ref z14, .ref z15, .int (nI z16), .ref z17, .int z18, .ref z19]))] ++ va_pl L M_39) H_348 := hP
                  have hD : va_D A ([(za, .inr (13, [.int 0, .ref z1, .int (nI z2), .int (nI z3), .int 5, .int (nI v5w37), .ref z6, .ref z7, .ref z8, .ref z9, .int (nI z10), .ref z11, .ref z12, .ref z13, .ref z14, .ref z15, .int (nI z16), .ref z17, .int z18, .ref z19]))] ++ va_pl L M_39) := hD
                  have hq := Eq.symm hp_351
                  subst hq
                  have hA9 : HA (ax M b11 2) (ax M b11 3) := hAT.1
                  have hB9 : HB (fx M b11 16) (fx M b11 14) (ax M b11 3) (ax M b11 43) := hAT.2.1
                  have hC9 : HC (fx M b11 10) (ax M b11 22) (ax M b11 23) := hAT.2.2.1
                  have hD9 : HD (fx M b11 0) (fx M b11 11) (fx M b11 15) (ax M b11 34) (ax M b11 41) := hAT.2.2.2.1
                  have hE9 : HE (fx M b11 0) (fx M b11 1) (fx M b11 12) (fx M b11 13) (ax M b11 37) := hAT.2.2.2.2
                  have hH9 : HI (fx M b11) (ax M b11) := ⟨hA9, hB9, hC9, hD9, hE9⟩
                  have hGI9 : GI K L z1 z2 M_39 := GI.fin hW0 i1 b2 hGI hact hV (hF.at i1 (by decide)) hH9
                  rw [hQ]
                  exact W.iret (v := (-1)) hx hb hr (fun t ht hW9 => ⟨⟨(-1), M_39, rfl, ⟨hW, hF, hG, hGI9, trivial⟩, ⟨5, (nI v5w37), z16, (by omega), by rw [ht]; exact hP, hD⟩⟩, hS.F ht⟩) hS.2.2 dX13_close_101
                · have hz := rfl (a := 0)
                  refine lv_if_eq (tgt := 102) hx hb dX13_close_91 (by decide) (fun _ => ?_) (fun c_352 => absurd c_352 (by decide))
                  refine lv_iinc (v := (nI (v5w37 + 1))) (lv' := [(5, .int (nI (v5w37 + 1))), (4, .int (nI c_31)), (3, .int 0), (2, .ref b11), (0, .ref za), (1, .int k1)]) hx hb dX13_close_102 hl (k := 0) rfl (nI_1 v5w37) (by decide) rfl (fun ls hl => ?_)
                  refine lv_goto (tgt := 78) hx hb dX13_close_105 (by decide) ?_
                  exact ih_35 (v5w37 + 1) M_39 H_343 _ _ (by omega) hM_41 (by omega) hW hF hG hV hP hD hS (lv_sub hl [0, 1, 2, 3, 4, 5] rfl)
          exact key_34 (1001 - 0 + 1) 0 M H_2 _ _ (by omega) hM14 (by omega) hW hF hG hV hP hD hS (lv_sub hl [0, 1, 2, 3, 4, 5] rfl)
        · have hz := rfl (a := 0)
          refine lv_iconst (v := 1) hx hb dX13_close_61 (by decide) ?_
          refine lv_iadd hx hb dX13_close_62 ?_
          refine lv_topi (fun f_353 ef_353 => ?_)
          obtain rfl : f_353 = (nI (c_26 + 1)) := ef_353.trans (nI_add c_26 1)
          refine lv_istore_n (lv' := [(3, .int (nI (c_26 + 1))), (2, .ref b11), (0, .ref za), (1, .int k1)]) hx hb dX13_close_63 rfl hl (by decide) rfl (fun ls hl => ?_)
          have hlt13 : v19 < v18 := by have h := hAT.2.2.2.2.1; omega
          refine lv_aload_n hx hb dX13_close_64 rfl (lv_at hl 1 rfl) ?_
          refine pg_getN (D := D) (ci := 12) (v := .ref v20) (C := RX12) (T := TX12) (N := 51) hx hb hg inG12 hown hK hP hb_13.1 hM14 rfl 37 (by decide) (hN.use (Cond.fieldLinkNest RX13 236 RX12 "end" "[I" RX13) 46 rfl rfl) (fun _ h9 => h9) hv20 dX13_close_65 ?_
          refine lv_aload_n hx hb dX13_close_68 rfl (lv_at hl 1 rfl) ?_
          refine pg_getN (D := D) (ci := 12) (v := .int (nI v19)) (C := RX12) (T := TX12) (N := 51) hx hb hg inG12 hown hK hP hb_13.1 hM14 rfl 13 (by decide) (hN.use (Cond.fieldLinkNest RX13 244 RX12 "closed" "I" RX13) 22 rfl rfl) (fun _ h9 => h9) hv19 dX13_close_69 ?_
          have hi_354 : vp_in (nI v19) 12 := (inbN v19 12 (by omega) (by omega))
          refine pg_iald hx hb hK hP hc20.1 0 hM21 rfl hi_354 dX13_close_72 ?_
          have hp_355 := hf21 _ (vp_lt hi_354)
          obtain ⟨c_356, hc_357, ec_358⟩ := hp_355
          rw [ec_358]
          refine lv_istore (lv' := [(4, .int (nI c_356)), (3, .int (nI (c_26 + 1))), (2, .ref b11), (0, .ref za), (1, .int k1)]) hx hb dX13_close_73 hl (by decide) rfl (fun ls hl => ?_)
          have hx1b : fx M b11 1 = (((c_26 + 1) : Nat) : Int) - 1 := by rw [hx1]; first | decide | (rw [nI_toInt (by omega)]; omega)
          obtain ⟨hq1, hq2, hq3, hq4⟩ := heC hAT.2.2.2.2 hb13 hb12 (by omega) (by omega) hb37 (nI_cl (by omega)) ec_358 (by omega)
          have h11 : 1 ≤ fx M b11 11 := by omega
          have hT37 : (ax M b11 37 v19).toInt = ((c_356 : Nat) : Int) := by
            have h := ec_358
            rw [nI_cl (by omega)] at h
            rw [hb37, h, nI_toInt (by omega)]
          refine lv_iload_n hx hb dX13_close_75 rfl (lv_at hl 1 rfl) ?_
          refine lv_istore (lv' := [(5, .int (nI (c_26 + 1))), (4, .int (nI c_356)), (3, .int (nI (c_26 + 1))), (2, .ref b11), (0, .ref za), (1, .int k1)]) hx hb dX13_close_76 hl (by decide) rfl (fun ls hl => ?_)
          have key_359 : ∀ (fu_361 : Nat) (v5w362 : Nat) (M_364 : Hp) (H_365 : Heap) (locs : List Loc) (ls : Array Slot), 1001 - v5w362 < fu_361 → M_364 b11 = .inr (12, fs14) → v5w362 ≤ 1000 → WOM cy K L M_364 → fr K L [12, 14, 15, 32, 42, 45, 46] M M_364 → fG K L [1, 7, 8, 13, 14, 15, 16, 17, 18] M M_364 → VW K L M M_364 b11 (fx M b11) (ax M b11) → va_P D vwCl ([(za, .inr (13, [.int 0, .ref z1, .int (nI z2), .int (nI z3), .int z4, .int z5, .ref z6, .ref z7, .ref z8, .ref z9, .int (nI z10), .ref z11, .ref z12, .ref z13, .ref z14, .ref z15, .int (nI z16), .ref z17, .int z18, .ref z19]))] ++ va_pl L M_364) H_365 → va_D A ([(za, .inr (13, [.int 0, .ref z1, .int (nI z2), .int (nI z3), .int z4, .int z5, .ref z6, .ref z7, .ref z8, .ref z9, .int (nI z10), .ref z11, .ref z12, .ref z13, .ref z14, .ref z15, .int (nI z16), .ref z17, .int z18, .ref z19]))] ++ va_pl L M_364) → va_S A s.heap H_365 locs → lv_has ls 8 [(5, .int (nI v5w362)), (4, .int (nI c_356)), (3, .int (nI (c_26 + 1))), (2, .ref b11), (0, .ref za), (1, .int k1)] → W p l e R s m ([.ref za, .int k1] : List Value).toArray below meth c H_365 locs 0 0 Q (F0 m 78 ls []) := by
            intro fu_361
            induction fu_361 with
            | zero => intro v5w362 M_364 H_365 locs ls h; exact absurd h (Nat.not_lt_zero _)
            | succ fu_361 ih_360 =>
              intro v5w362 M_364 H_365 locs ls hfu hM_366 hx_363 hW hF hG hV hP hD hS hl
              refine lv_iload hx hb dX13_close_78 (lv_at hl 0 rfl) ?_
              refine lv_iload hx hb dX13_close_80 (lv_at hl 1 rfl) ?_
              refine lv_icmp_gt (tgt := 108) hx hb dX13_close_82 (by decide) (fun c_367 => ?_) (fun c_367 => ?_)
              · have hz := rfl (a := 0)
                have n_368 : c_356 < v5w362 := (iLT (a := c_356) (b := v5w362) (by omega) (by omega)).mp c_367
                refine lv_aload_n hx hb dX13_close_108 rfl (lv_at hl 4 rfl) ?_
                refine lv_iload_n hx hb dX13_close_109 rfl (lv_at hl 5 rfl) ?_
                refine lv_iload hx hb dX13_close_110 (lv_at hl 1 rfl) ?_
                have hPc : va_P D vwCl ([(za, .inr (13, [.int 0, .ref z1, .int (nI z2), .int (nI z3), .int z4, .int z5, .ref z6, .ref z7, .ref z8, .ref z9, .int (nI z10), .ref z11, .ref z12, .ref z13, .ref z14, .ref z15, .int (nI z16), .ref z17, .int z18, .ref z19]))] ++ va_pl L M_364) H_365 := hP
                have hDc : va_D A ([(za, .inr (13, [.int 0, .ref z1, .int (nI z2), .int (nI z3), .int z4, .int z5, .ref z6, .ref z7, .ref z8, .ref z9, .int (nI z10), .ref z11, .ref z12, .ref z13, .ref z14, .ref z15, .int (nI z16), .ref z17, .int z18, .ref z19]))] ++ va_pl L M_364) := hD
                have hFc : ∀ q, va_A ([(za, .inr (13, [.int 0, .ref z1, .int (nI z2), .int (nI z3), .int z4, .int z5, .ref z6, .ref z7, .ref z8, .ref z9, .int (nI z10), .ref z11, .ref z12, .ref z13, .ref z14, .ref z15, .int (nI z16), .ref z17, .int z18, .ref z19]))] ++ va_pl L M_364) H_365.size q → A q := pg_free hDc hS hA
                refine va_calli (va_runV (As := [.int k1, .int (nI c_356)]) (rest := []) ⟨hx, hb, hml, hown, hg⟩ (r_X13_behind l D cy K L M_364 H_365.size za 0 z1 z2 z3 z4 z5 z6 z7 z8 z9 z10 z11 z12 z13 z14 z15 z16 z17 z18 z19 k1 (nI c_356)  hW i1 b2 b3 i6 i7 i8 i9 b10 i11 i12 i13 i14 i15 b16 i17 i19) (cwV 2 hg (gV wd_853 wd_854 wd_855 wd_717 wd_856) rfl rfl rfl (by decide +kernel) ⟨(Nat.le_trans (Nat.le_of_ble_eq_true rfl) hRf), (Nat.le_trans (Nat.le_of_ble_eq_true rfl) hRl)⟩) ⟨PG.blind, va_recv hK hP (ci := 13) (q0 := 0) rfl rfl, fun U hU hW => ⟨rfl, PG.at hPc hK hDc hN hU hW⟩⟩ rfl rfl hl.1 rfl (lv_room (Nat.le_of_ble_eq_true rfl)) dX13_close_112 ⟨(Nat.le_trans (Nat.le_of_ble_eq_true rfl) hRc), (Nat.le_trans (Nat.le_of_ble_eq_true rfl) hRs)⟩) hS (fun q _ h => hFc q h) hFc (fun r_370 M_371 t H_369 locs ht hvm hw hB hz1 hk1 hS => ?_)
                have hp_372 := hw
                obtain ⟨hP1, hD1⟩ := hB
                rw [ht] at hP1
                have hP : va_P D vwCl ([(za, .inr (13, [.int 0, .ref z1, .int (nI z2), .int (nI z3), .int z4, .int z5, .ref z6, .ref z7, .ref z8, .ref z9, .int (nI z10), .ref z11, .ref z12, .ref z13, .ref z14, .ref z15, .int (nI z16), .ref z17, .int z18, .ref z19]))] ++ va_pl L M_364) H_369 := hP1
                have hD : va_D A ([(za, .inr (13, [.int 0, .ref z1, .int (nI z2), .int (nI z3), .int z4, .int z5, .ref z6, .ref z7, .ref z8, .ref z9, .int (nI z10), .ref z11, .ref z12, .ref z13, .ref z14, .ref z15, .int (nI z16), .ref z17, .int z18, .ref z19]))] ++ va_pl L M_364) := hD1.mono hFc
                rcases hp_372 with rfl | ⟨j_373, rfl, c_374⟩
                · have hz := rfl (a := 0)
                  refine lv_istore (lv' := [(5, .int (-1)), (4, .int (nI c_356)), (3, .int (nI (c_26 + 1))), (2, .ref b11), (0, .ref za), (1, .int k1)]) hx hb dX13_close_115 hl (by decide) rfl (fun ls hl => ?_)
                  refine lv_iload hx hb dX13_close_117 (lv_at hl 0 rfl) ?_
                  refine lv_iconst (v := (-1)) hx hb dX13_close_119 (by decide) ?_
                  refine lv_icmp_eq (tgt := 132) hx hb dX13_close_120 (by decide) (fun _ => ?_) (fun c_375 => absurd c_375 (by decide))
                  refine lv_aload_n hx hb dX13_close_132 rfl (lv_at hl 3 rfl) ?_
                  refine lv_iconst (v := 0) hx hb dX13_close_133 (by decide) ?_
                  refine pg_putN (D := D) (ci := 12) (v := .int 0) (ty := .int) (C := RX12) (T := TX12) (N := 51) hx hb hg inG12 tyX12 tyX12_ok nmX12 hown hK hP hD hS hb_13.1 hM_366 rfl 17 (by decide) (hN.use (Cond.fieldLinkNest RX13 256 RX12 "stretches" "I" RX13) 26 rfl rfl) (fun _ h9 => h9) rfl (by decide +kernel) rfl rfl (by rw [hn14]; decide) dX13_close_134 (fun H_376 locs hP hD hS => ?_)
                  have hs_379 : (fs14.set 17 (.int 0))[17]? = some (.int (nI 0)) := List.getElem?_set_self (by rw [hn14]; decide)
                  have hk_378 := fld12_set (k := 17) (w := .int 0) hl14 (show fld12 K L 17 (fs14.set 17 (.int 0)) from ⟨0, hs_379, by omega⟩)
                  have hn_380 : (fs14.set 17 (.int 0)).length = 51 := by rw [List.length_set]; exact hn14
                  have hv_381 : (fs14.set 17 (.int 0))[0]? = some (.int (nI v15)) := by rw [List.getElem?_set_ne (by decide)]; exact hv15
                  have hv_382 : (fs14.set 17 (.int 0))[1]? = some (.int (nI c_26)) := by rw [List.getElem?_set_ne (by decide)]; exact hv16
                  have hv_383 : (fs14.set 17 (.int 0))[11]? = some (.int (nI v17)) := by rw [List.getElem?_set_ne (by decide)]; exact hv17
                  have hv_384 : (fs14.set 17 (.int 0))[12]? = some (.int (nI v18)) := by rw [List.getElem?_set_ne (by decide)]; exact hv18
                  have hv_385 : (fs14.set 17 (.int 0))[13]? = some (.int (nI v19)) := by rw [List.getElem?_set_ne (by decide)]; exact hv19
                  have hv_386 : (fs14.set 17 (.int 0))[37]? = some (.ref v20) := by rw [List.getElem?_set_ne (by decide)]; exact hv20
                  have hb_387 : 0 ≤ 120 := by omega
                  obtain ⟨M_388, eM_388⟩ : ∃ M1 : Hp, M1 = va_up M_364 b11 (.inr (12, fs14.set 17 (.int 0))) := ⟨_, rfl⟩
                  have hV : VW K L M M_388 b11 (va_up (fx M b11) 17 (0 : Int)) (ax M b11) := by rw [eM_388]; exact hV.put hW hb_13 hM_366 hn14 rfl (by decide) rfl (by decide)
                  have hP : va_P D vwCl ([(za, .inr (13, [.int 0, .ref z1, .int (nI z2), .int (nI z3), .int z4, .int z5, .ref z6, .ref z7, .ref z8, .ref z9, .int (nI z10), .ref z11, .ref z12, .ref z13, .ref z14, .ref z15, .int (nI z16), .ref z17, .int z18, .ref z19]))] ++ va_pl L M_388) H_376 := by rw [eM_388]; exact hP
                  have hD : va_D A ([(za, .inr (13, [.int 0, .ref z1, .int (nI z2), .int (nI z3), .int z4, .int z5, .ref z6, .ref z7, .ref z8, .ref z9, .int (nI z10), .ref z11, .ref z12, .ref z13, .ref z14, .ref z15, .int (nI z16), .ref z17, .int z18, .ref z19]))] ++ va_pl L M_388) := by rw [eM_388]; exact hD
                  have hW : WOM cy K L M_388 := by rw [eM_388]; exact hW.up_12 hb_13 ⟨_, rfl, hn_380, hk_378⟩
                  have hF : fr K L [12, 14, 15, 32, 42, 45, 46] M M_388 := by rw [eM_388]; exact hF.up hb_13 (by decide)
                  have hG : fG K L [1, 7, 8, 13, 14, 15, 16, 17, 18] M M_388 := by rw [eM_388]; exact hG.up hM_366 (by decide)
                  have hM_389 : M_388 b11 = .inr (12, fs14.set 17 (.int 0)) := by rw [eM_388]; exact va_up_self _ _ _
                  refine lv_iconst (v := 0) hx hb dX13_close_137 (by decide) ?_
                  refine lv_istore (lv' := [(6, .int 0), (5, .int (-1)), (4, .int (nI c_356)), (3, .int (nI (c_26 + 1))), (2, .ref b11), (0, .ref za), (1, .int k1)]) hx hb dX13_close_138 hl (by decide) rfl (fun ls hl => ?_)
                  have key_390 : ∀ (fu_392 : Nat) (v6w393 : Nat) (M_395 : Hp) (H_396 : Heap) (locs : List Loc) (ls : Array Slot), 24 - v6w393 < fu_392 → M_395 b11 = .inr (12, fs14.set 17 (.int 0)) → v6w393 ≤ 24 → WOM cy K L M_395 → fr K L [12, 14, 15, 32, 42, 45, 46] M M_395 → fG K L [1, 7, 8, 13, 14, 15, 16, 17, 18] M M_395 → VW K L M M_395 b11 (va_up (fx M b11) 17 (0 : Int)) (ax M b11) → va_P D vwCl ([(za, .inr (13, [.int 0, .ref z1, .int (nI z2), .int (nI z3), .int z4, .int z5, .ref z6, .ref z7, .ref z8, .ref z9, .int (nI z10), .ref z11, .ref z12, .ref z13, .ref z14, .ref z15, .int (nI z16), .ref z17, .int z18, .ref z19]))] ++ va_pl L M_395) H_396 → va_D A ([(za, .inr (13, [.int 0, .ref z1, .int (nI z2), .int (nI z3), .int z4, .int z5, .ref z6, .ref z7, .ref z8, .ref z9, .int (nI z10), .ref z11, .ref z12, .ref z13, .ref z14, .ref z15, .int (nI z16), .ref z17, .int z18, .ref z19]))] ++ va_pl L M_395) → va_S A s.heap H_396 locs → lv_has ls 8 [(6, .int (nI v6w393)), (5, .int (-1)), (4, .int (nI c_356)), (3, .int (nI (c_26 + 1))), (2, .ref b11), (0, .ref za), (1, .int k1)] → W p l e R s m ([.ref za, .int k1] : List Value).toArray below meth c H_396 locs 0 0 Q (F0 m 140 ls []) := by
                    intro fu_392
                    induction fu_392 with
                    | zero => intro v6w393 M_395 H_396 locs ls h; exact absurd h (Nat.not_lt_zero _)
                    | succ fu_392 ih_391 =>
                      intro v6w393 M_395 H_396 locs ls hfu hM_397 hx_394 hW hF hG hV hP hD hS hl
                      refine lv_iload hx hb dX13_close_140 (lv_at hl 0 rfl) ?_
                      refine lv_bipush (v := 24) hx hb dX13_close_142 (by decide) ?_
                      refine lv_icmp_ge (tgt := 161) hx hb dX13_close_144 (by decide) (fun c_398 => ?_) (fun c_398 => ?_)
                      · have hz := rfl (a := 0)
                        have n_399 : 24 ≤ v6w393 := (iLE (a := 24) (b := v6w393) (by omega) (by omega)).mp c_398
                        refine lv_iload_n hx hb dX13_close_161 rfl (lv_at hl 3 rfl) ?_
                        refine lv_istore (lv' := [(6, .int (nI (c_26 + 1))), (5, .int (-1)), (4, .int (nI c_356)), (3, .int (nI (c_26 + 1))), (2, .ref b11), (0, .ref za), (1, .int k1)]) hx hb dX13_close_162 hl (by decide) rfl (fun ls hl => ?_)
                        have key_400 : ∀ (fu_402 : Nat) (v6w403 : Nat) (gnw403 : Nat) (gpw403 : Nat → Int32) (gqw403 : Nat → Int32) (M_406 : Hp) (H_407 : Heap) (locs : List Loc) (ls : Array Slot), 1001 - v6w403 < fu_402 → v6w403 ≤ c_356 + 1 → SD (c_26 + 1) gnw403 v6w403 gpw403 gqw403 → WOM cy K L M_406 → fr K L [12, 14, 15, 32, 42, 45, 46] M M_406 → fG K L [1, 7, 8, 13, 14, 15, 16, 17, 18] M M_406 → VW K L M M_406 b11 (va_up (fx M b11) 17 ((gnw403 : Nat) : Int)) (va_up (va_up (ax M b11) 44 gpw403) 45 gqw403) → va_P D vwCl ([(za, .inr (13, [.int 0, .ref z1, .int (nI z2), .int (nI z3), .int z4, .int z5, .ref z6, .ref z7, .ref z8, .ref z9, .int (nI z10), .ref z11, .ref z12, .ref z13, .ref z14, .ref z15, .int (nI z16), .ref z17, .int z18, .ref z19]))] ++ va_pl L M_406) H_407 → va_D A ([(za, .inr (13, [.int 0, .ref z1, .int (nI z2), .int (nI z3), .int z4, .int z5, .ref z6, .ref z7, .ref z8, .ref z9, .int (nI z10), .ref z11, .ref z12, .ref z13, .ref z14, .ref z15, .int (nI z16), .ref z17, .int z18, .ref z19]))] ++ va_pl L M_406) → va_S A s.heap H_407 locs → lv_has ls 8 [(6, .int (nI v6w403)), (5, .int (-1)), (4, .int (nI c_356)), (3, .int (nI (c_26 + 1))), (2, .ref b11), (0, .ref za), (1, .int k1)] → W p l e R s m ([.ref za, .int k1] : List Value).toArray below meth c H_407 locs 0 0 Q (F0 m 164 ls []) := by
                          intro fu_402
                          induction fu_402 with
                          | zero => intro v6w403 gnw403 gpw403 gqw403 M_406 H_407 locs ls h; exact absurd h (Nat.not_lt_zero _)
                          | succ fu_402 ih_401 =>
                            intro v6w403 gnw403 gpw403 gqw403 M_406 H_407 locs ls hfu hx_404 hx_405 hW hF hG hV hP hD hS hl
                            refine lv_iload hx hb dX13_close_164 (lv_at hl 0 rfl) ?_
                            refine lv_iload hx hb dX13_close_166 (lv_at hl 2 rfl) ?_
                            refine lv_icmp_gt (tgt := 238) hx hb dX13_close_168 (by decide) (fun c_408 => ?_) (fun c_408 => ?_)
                            · have hz := rfl (a := 0)
                              have n_409 : c_356 < v6w403 := (iLT (a := c_356) (b := v6w403) (by omega) (by omega)).mp c_408
                              obtain ⟨fs410, hM410, hn410, hl410⟩ := hW.open_12 hb_13
                              obtain ⟨v411, hv411, hc411⟩ : ∃ v : Nat, fs410[17]? = some (.int (nI v) : Value) ∧ v ≤ 120 := hl410 17 (by decide)
                              have hx17 : ((gnw403 : Nat) : Int) = ((v411 : Nat) : Int) := (congrFun hV.2.1 17).symm.trans ((fx_of hM410 rfl hv411).trans (nI_toInt (by omega)))
                              have hSD := hx_405
                              obtain ⟨hs1, hs2, hs3, hs4⟩ := hx_405
                              have hNn : 1 ≤ gnw403 ∧ 1 ≤ (gqw403 0).toInt := by rcases hs3 with q | q <;> first | exact q | omega
                              have hN1 := hNn.1
                              have hs45 := hNn.2
                              refine lv_aload_n hx hb dX13_close_238 rfl (lv_at hl 4 rfl) ?_
                              refine pg_getN (D := D) (ci := 12) (v := .int (nI v411)) (C := RX12) (T := TX12) (N := 51) hx hb hg inG12 hown hK hP hb_13.1 hM410 rfl 17 (by decide) (hN.use (Cond.fieldLinkNest RX13 256 RX12 "stretches" "I" RX13) 26 rfl rfl) (fun _ h9 => h9) hv411 dX13_close_239 ?_
                              refine lv_istore (lv' := [(6, .int (nI v411)), (5, .int (-1)), (4, .int (nI c_356)), (3, .int (nI (c_26 + 1))), (2, .ref b11), (0, .ref za), (1, .int k1)]) hx hb dX13_close_242 hl (by decide) rfl (fun ls hl => ?_)
                              refine lv_aload_n hx hb dX13_close_244 rfl (lv_at hl 5 rfl) ?_
                              refine lv_aload_n hx hb dX13_close_245 rfl (lv_at hl 4 rfl) ?_
                              refine lv_iload hx hb dX13_close_246 (lv_at hl 0 rfl) ?_
                              have hPc : va_P D vwCl ([(za, .inr (13, [.int 0, .ref z1, .int (nI z2), .int (nI z3), .int z4, .int z5, .ref z6, .ref z7, .ref z8, .ref z9, .int (nI z10), .ref z11, .ref z12, .ref z13, .ref z14, .ref z15, .int (nI z16), .ref z17, .int z18, .ref z19]))] ++ va_pl L M_406) H_407 := hP
                              have hDc : va_D A ([(za, .inr (13, [.int 0, .ref z1, .int (nI z2), .int (nI z3), .int z4, .int z5, .ref z6, .ref z7, .ref z8, .ref z9, .int (nI z10), .ref z11, .ref z12, .ref z13, .ref z14, .ref z15, .int (nI z16), .ref z17, .int z18, .ref z19]))] ++ va_pl L M_406) := hD
                              have hFc : ∀ q, va_A ([(za, .inr (13, [.int 0, .ref z1, .int (nI z2), .int (nI z3), .int z4, .int z5, .ref z6, .ref z7, .ref z8, .ref z9, .int (nI z10), .ref z11, .ref z12, .ref z13, .ref z14, .ref z15, .int (nI z16), .ref z17, .int z18, .ref z19]))] ++ va_pl L M_406) H_407.size q → A q := pg_free hDc hS hA
                              refine va_callv (va_runV (As := [.ref b11, .int (nI v411)]) (rest := []) ⟨hx, hb, hml, hown, hg⟩ (g_X13_looses l D cy K L M_406 H_407.size za 0 z1 z2 z3 z4 z5 z6 z7 z8 z9 z10 z11 z12 z13 z14 z15 z16 z17 z18 z19 b11 v411  hW i1 b2 b3 i6 i7 i8 i9 b10 i11 i12 i13 i14 i15 b16 i17 i19 hb_13 (by omega) hV.2.2.2 (by omega) (by rw [hV.2.2.1]; exact hs45)) (cwV 2 hg (gV wd_857 wd_858 wd_859 wd_717 wd_860) rfl rfl rfl (by decide +kernel) ⟨(Nat.le_trans (Nat.le_of_ble_eq_true rfl) hRf), (Nat.le_trans (Nat.le_of_ble_eq_true rfl) hRl)⟩) ⟨PG.blind, va_recv hK hP (ci := 13) (q0 := 0) rfl rfl, fun U hU hW => ⟨rfl, PG.at hPc hK hDc hN hU hW⟩⟩ rfl rfl hl.1 rfl (lv_room (Nat.le_of_ble_eq_true rfl)) dX13_close_248 ⟨(Nat.le_trans (Nat.le_of_ble_eq_true rfl) hRc), (Nat.le_trans (Nat.le_of_ble_eq_true rfl) hRs)⟩) hS (fun q _ h => hFc q h) hFc (fun M_414 t H_412 locs ht hvm hw hB hz1 hk1 hS => ?_)
                              have hWb := hW
                              obtain ⟨hW, hF2, hG2, hp_415⟩ := hw
                              obtain ⟨hP1, hD1⟩ := hB
                              rw [ht] at hP1
                              have hP : va_P D vwCl ([(za, .inr (13, [.int 0, .ref z1, .int (nI z2), .int (nI z3), .int z4, .int z5, .ref z6, .ref z7, .ref z8, .ref z9, .int (nI z10), .ref z11, .ref z12, .ref z13, .ref z14, .ref z15, .int (nI z16), .ref z17, .int z18, .ref z19]))] ++ va_pl L M_414) H_412 := hP1
                              have hD : va_D A ([(za, .inr (13, [.int 0, .ref z1, .int (nI z2), .int (nI z3), .int z4, .int z5, .ref z6, .ref z7, .ref z8, .ref z9, .int (nI z10), .ref z11, .ref z12, .ref z13, .ref z14, .ref z15, .int (nI z16), .ref z17, .int z18, .ref z19]))] ++ va_pl L M_414) := hD1.mono hFc
                              have hM_416 : M_414 b11 = .inr (12, fs410) := (hF2.at hb_13 (by decide)).trans hM410
                              have hF : fr K L [12, 14, 15, 32, 42, 45, 46] M M_414 := hF.tr hF2 (by decide)
                              have hG : fG K L [1, 7, 8, 13, 14, 15, 16, 17, 18] M M_414 := hG.tr hWb hG2 (by decide)
                              have hV : VW K L M M_414 b11 (va_up (fx M b11) 17 ((gnw403 : Nat) : Int)) (va_up (va_up (ax M b11) 44 gpw403) 45 gqw403) := hV.cal hWb hW hF2 hG2 (by decide) (by decide) hb_13
                              refine lv_iconst (v := 0) hx hb dX13_close_251 (by decide) ?_
                              refine lv_istore (lv' := [(7, .int 0), (6, .int (nI v411)), (5, .int (-1)), (4, .int (nI c_356)), (3, .int (nI (c_26 + 1))), (2, .ref b11), (0, .ref za), (1, .int k1)]) hx hb dX13_close_252 hl (by decide) rfl (fun ls hl => ?_)
                              have key_417 : ∀ (fu_419 : Nat) (v7w420 : Nat) (zgw420 : Nat) (M_423 : Hp) (H_424 : Heap) (locs : List Loc) (ls : Array Slot), 1001 - v7w420 < fu_419 → v7w420 ≤ v411 → zgw420 ≤ 24 → WOM cy K L M_423 → fr K L [12, 14, 15, 32, 42, 45, 46] M M_423 → fG K L [1, 7, 8, 13, 14, 15, 16, 17, 18] M M_423 → VW K L M M_423 b11 (va_up (fx M b11) 17 ((gnw403 : Nat) : Int)) (va_up (va_up (ax M b11) 44 gpw403) 45 gqw403) → va_P D vwCl ([(za, .inr (13, [.int 0, .ref z1, .int (nI z2), .int (nI z3), .int z4, .int z5, .ref z6, .ref z7, .ref z8, .ref z9, .int (nI z10), .ref z11, .ref z12, .ref z13, .ref z14, .ref z15, .int (nI zgw420), .ref z17, .int z18, .ref z19]))] ++ va_pl L M_423) H_424 → va_D A ([(za, .inr (13, [.int 0, .ref z1, .int (nI z2), .int (nI z3), .int z4, .int z5, .ref z6, .ref z7, .ref z8, .ref z9, .int (nI z10), .ref z11, .ref z12, .ref z13, .ref z14, .ref z15, .int (nI zgw420), .ref z17, .int z18, .ref z19]))] ++ va_pl L M_423) → va_S A s.heap H_424 locs → lv_has ls 8 [(7, .int (nI v7w420)), (6, .int (nI v411)), (5, .int (-1)), (4, .int (nI c_356)), (3, .int (nI (c_26 + 1))), (2, .ref b11), (0, .ref za), (1, .int k1)] → W p l e R s m ([.ref za, .int k1] : List Value).toArray below meth c H_424 locs 0 0 Q (F0 m 254 ls []) := by
                                intro fu_419
                                induction fu_419 with
                                | zero => intro v7w420 zgw420 M_423 H_424 locs ls h; exact absurd h (Nat.not_lt_zero _)
                                | succ fu_419 ih_418 =>
                                  intro v7w420 zgw420 M_423 H_424 locs ls hfu hx_421 hx_422 hW hF hG hV hP hD hS hl
                                  refine lv_iload hx hb dX13_close_254 (lv_at hl 0 rfl) ?_
                                  refine lv_iload hx hb dX13_close_256 (lv_at hl 1 rfl) ?_
                                  refine lv_icmp_ge (tgt := 275) hx hb dX13_close_258 (by decide) (fun c_425 => ?_) (fun c_425 => ?_)
                                  · have hz := rfl (a := 0)
                                    have n_426 : v411 ≤ v7w420 := (iLE (a := v411) (b := v7w420) (by omega) (by omega)).mp c_425
                                    refine lv_iconst (v := 0) hx hb dX13_close_275 (by decide) ?_
                                    refine lv_istore (lv' := [(7, .int 0), (6, .int (nI v411)), (5, .int (-1)), (4, .int (nI c_356)), (3, .int (nI (c_26 + 1))), (2, .ref b11), (0, .ref za), (1, .int k1)]) hx hb dX13_close_276 hl (by decide) rfl (fun ls hl => ?_)
                                    have key_427 : ∀ (fu_429 : Nat) (v7w430 : Nat) (zgw430 : Nat) (gnw430 : Nat) (gpw430 : Nat → Int32) (gqw430 : Nat → Int32) (M_434 : Hp) (H_435 : Heap) (locs : List Loc) (ls : Array Slot), 24 - v7w430 < fu_429 → v7w430 ≤ 20 → zgw430 ≤ 24 → gnw430 ≤ 100 + v7w430 → WOM cy K L M_434 → fr K L [12, 14, 15, 32, 42, 45, 46] M M_434 → fG K L [1, 7, 8, 13, 14, 15, 16, 17, 18] M M_434 → VW K L M M_434 b11 (va_up (fx M b11) 17 ((gnw430 : Nat) : Int)) (va_up (va_up (ax M b11) 44 gpw430) 45 gqw430) → va_P D vwCl ([(za, .inr (13, [.int 0, .ref z1, .int (nI z2), .int (nI z3), .int z4, .int z5, .ref z6, .ref z7, .ref z8, .ref z9, .int (nI z10), .ref z11, .ref z12, .ref z13, .ref z14, .ref z15, .int (nI zgw430), .ref z17, .int z18, .ref z19]))] ++ va_pl L M_434) H_435 → va_D A ([(za, .inr (13, [.int 0, .ref z1, .int (nI z2), .int (nI z3), .int z4, .int z5, .ref z6, .ref z7, .ref z8, .ref z9, .int (nI z10), .ref z11, .ref z12, .ref z13, .ref z14, .ref z15, .int (nI zgw430), .ref z17, .int z18, .ref z19]))] ++ va_pl L M_434) → va_S A s.heap H_435 locs → lv_has ls 8 [(7, .int (nI v7w430)), (6, .int (nI v411)), (5, .int (-1)), (4, .int (nI c_356)), (3, .int (nI (c_26 + 1))), (2, .ref b11), (0, .ref za), (1, .int k1)] → W p l e R s m ([.ref za, .int k1] : List Value).toArray below meth c H_435 locs 0 0 Q (F0 m 278 ls []) := by
                                      intro fu_429
                                      induction fu_429 with
                                      | zero => intro v7w430 zgw430 gnw430 gpw430 gqw430 M_434 H_435 locs ls h; exact absurd h (Nat.not_lt_zero _)
                                      | succ fu_429 ih_428 =>
                                        intro v7w430 zgw430 gnw430 gpw430 gqw430 M_434 H_435 locs ls hfu hx_431 hx_432 hx_433 hW hF hG hV hP hD hS hl
                                        refine lv_iload hx hb dX13_close_278 (lv_at hl 0 rfl) ?_
                                        refine lv_aload_n hx hb dX13_close_280 rfl (lv_at hl 5 rfl) ?_
                                        obtain ⟨fs436, hM436, hn436, hl436⟩ := hW.open_12 hb_13
                                        obtain ⟨v437, hv437, hc437⟩ : ∃ v : Nat, fs436[15]? = some (.int (nI v) : Value) ∧ v ≤ 20 := hl436 15 (by decide)
                                        refine pg_getN (D := D) (ci := 12) (v := .int (nI v437)) (C := RX12) (T := TX12) (N := 51) hx hb hg inG12 hown hK hP hb_13.1 hM436 rfl 15 (by decide) (hN.use (Cond.fieldLinkNest RX13 279 RX12 "mends" "I" RX13) 24 rfl rfl) (fun _ h9 => h9) hv437 dX13_close_281 ?_
                                        refine lv_icmp_ge (tgt := 300) hx hb dX13_close_284 (by decide) (fun c_438 => ?_) (fun c_438 => ?_)
                                        · have hz := rfl (a := 0)
                                          have n_439 : v437 ≤ v7w430 := (iLE (a := v437) (b := v7w430) (by omega) (by omega)).mp c_438
                                          refine lv_aload_n hx hb dX13_close_300 rfl (lv_at hl 5 rfl) ?_
                                          refine lv_iload_n hx hb dX13_close_301 rfl (lv_at hl 4 rfl) ?_
                                          refine lv_iload hx hb dX13_close_302 (lv_at hl 3 rfl) ?_
                                          have hPc : va_P D vwCl ([] ++ va_pl L M_434) H_435 := hP.part (cx := []) [] rfl
                                          have hDc : va_D A ([] ++ va_pl L M_434) := hD.part (cx := []) [] (by decide) rfl
                                          have hFc : ∀ q, va_A ([] ++ va_pl L M_434) H_435.size q → A q := pg_free hDc hS hA
                                          refine va_callv (va_runS (As := [.ref b11, .int (nI (c_26 + 1)), .int (nI c_356)]) (rest := []) ⟨hx, hb, hml, hown, hg⟩ (r_settled2 l D cy K L M_434 H_435.size b11 (nI (c_26 + 1)) (nI c_356)  hW hb_13 hV.2.2.2) (va_cwS 3 hg (gS wd_861 wd_862 wd_717 wd_863) rfl rfl rfl (by decide +kernel) ⟨(Nat.le_trans (Nat.le_of_ble_eq_true rfl) hRf), (Nat.le_trans (Nat.le_of_ble_eq_true rfl) hRl)⟩) ⟨PG.blind, fun U hU hW => ⟨rfl, PG.at hPc hK hDc hN hU hW⟩⟩ rfl rfl hl.1 rfl (lv_room (Nat.le_of_ble_eq_true rfl)) dX13_close_304 ⟨(Nat.le_trans (Nat.le_of_ble_eq_true rfl) hRc), (Nat.le_trans (Nat.le_of_ble_eq_true rfl) hRs)⟩) hS (fun q _ h => hFc q h) hFc (fun M_442 t H_440 locs ht hvm hw hB hz1 hk1 hS => ?_)
                                          have hWb := hW
                                          obtain ⟨hW, hF2, hG2, hVP, hp_443⟩ := hw
                                          obtain ⟨hP1, hD1⟩ := hB
                                          rw [ht] at hP1
                                          obtain ⟨hP, hD⟩ := va_joinP (X := [(za, .inr (13, [.int 0, .ref z1, .int (nI z2), .int (nI z3), .int z4, .int z5, .ref z6, .ref z7, .ref z8, .ref z9, .int (nI z10), .ref z11, .ref z12, .ref z13, .ref z14, .ref z15, .int (nI zgw430), .ref z17, .int z18, .ref z19]))]) (cx := []) (wr := [(za, .inr (13, [.int 0, .ref z1, .int (nI z2), .int (nI z3), .int z4, .int z5, .ref z6, .ref z7, .ref z8, .ref z9, .int (nI z10), .ref z11, .ref z12, .ref z13, .ref z14, .ref z15, .int (nI zgw430), .ref z17, .int z18, .ref z19]))]) (rx := []) (pl := va_pl L M_434) (pl1 := va_pl L M_442) hP hD [] [0] rfl rfl (by decide) (by decide) hk1 hFc hP1 hD1
                                          have hP : va_P D vwCl ([(za, .inr (13, [.int 0, .ref z1, .int (nI z2), .int (nI z3), .int z4, .int z5, .ref z6, .ref z7, .ref z8, .ref z9, .int (nI z10), .ref z11, .ref z12, .ref z13, .ref z14, .ref z15, .int (nI zgw430), .ref z17, .int z18, .ref z19]))] ++ va_pl L M_442) H_440 := hP
                                          have hD : va_D A ([(za, .inr (13, [.int 0, .ref z1, .int (nI z2), .int (nI z3), .int z4, .int z5, .ref z6, .ref z7, .ref z8, .ref z9, .int (nI z10), .ref z11, .ref z12, .ref z13, .ref z14, .ref z15, .int (nI zgw430), .ref z17, .int z18, .ref z19]))] ++ va_pl L M_442) := hD
                                          have hF : fr K L [12, 14, 15, 32, 42, 45, 46] M M_442 := hF.tr hF2 (by decide)
                                          have hG : fG K L [1, 7, 8, 13, 14, 15, 16, 17, 18] M M_442 := hG.tr hWb hG2 (by decide)
                                          obtain ⟨n_444, hn14, hV2⟩ := hVP
                                          rw [hV.2.1, hV.2.2.1] at hV2
                                          have hV : VW K L M M_442 b11 (va_up (va_up (fx M b11) 17 ((gnw430 : Nat) : Int)) 14 n_444) (va_up (va_up (ax M b11) 44 gpw430) 45 gqw430) := hV.tr hV2
                                          refine lv_aload_n hx hb dX13_close_307 rfl (lv_at hl 5 rfl) ?_
                                          refine lv_lconst (v := 0) hx hb dX13_close_308 (by decide) ?_
                                          obtain ⟨fs446, hM446, hn446, hl446⟩ := hW.open_12 hb_13
                                          refine pg_putN (D := D) (ci := 12) (v := .long 0) (ty := .long) (C := RX12) (T := TX12) (N := 51) hx hb hg inG12 tyX12 tyX12_ok nmX12 hown hK hP hD hS hb_13.1 hM446 rfl 7 (by decide) (hN.use (Cond.fieldLinkNest RX13 179 RX12 "loose" "J" RX13) 16 rfl rfl) (fun _ h9 => h9) rfl (by decide +kernel) rfl rfl (by rw [hn446]; decide) dX13_close_309 (fun H_445 locs hP hD hS => ?_)
                                          have hs_449 : (fs446.set 7 (.long 0))[7]? = some (.long 0) := List.getElem?_set_self (by rw [hn446]; decide)
                                          have hk_448 := fld12_set (k := 7) (w := .long 0) hl446 (show fld12 K L 7 (fs446.set 7 (.long 0)) from ⟨0, hs_449⟩)
                                          have hn_450 : (fs446.set 7 (.long 0)).length = 51 := by rw [List.length_set]; exact hn446
                                          obtain ⟨M_451, eM_451⟩ : ∃ M1 : Hp, M1 = va_up M_442 b11 (.inr (12, fs446.set 7 (.long 0))) := ⟨_, rfl⟩
                                          have hV : VW K L M M_451 b11 (va_up (va_up (fx M b11) 17 ((gnw430 : Nat) : Int)) 14 n_444) (va_up (va_up (ax M b11) 44 gpw430) 45 gqw430) := by rw [eM_451]; exact hV.put0 hW hb_13 hM446 rfl rfl
                                          have hP : va_P D vwCl ([(za, .inr (13, [.int 0, .ref z1, .int (nI z2), .int (nI z3), .int z4, .int z5, .ref z6, .ref z7, .ref z8, .ref z9, .int (nI z10), .ref z11, .ref z12, .ref z13, .ref z14, .ref z15, .int (nI zgw430), .ref z17, .int z18, .ref z19]))] ++ va_pl L M_451) H_445 := by rw [eM_451]; exact hP
                                          have hD : va_D A ([(za, .inr (13, [.int 0, .ref z1, .int (nI z2), .int (nI z3), .int z4, .int z5, .ref z6, .ref z7, .ref z8, .ref z9, .int (nI z10), .ref z11, .ref z12, .ref z13, .ref z14, .ref z15, .int (nI zgw430), .ref z17, .int z18, .ref z19]))] ++ va_pl L M_451) := by rw [eM_451]; exact hD
                                          have hW : WOM cy K L M_451 := by rw [eM_451]; exact hW.up_12 hb_13 ⟨_, rfl, hn_450, hk_448⟩
                                          have hF : fr K L [12, 14, 15, 32, 42, 45, 46] M M_451 := by rw [eM_451]; exact hF.up hb_13 (by decide)
                                          have hG : fG K L [1, 7, 8, 13, 14, 15, 16, 17, 18] M M_451 := by rw [eM_451]; exact hG.up hM446 (by decide)
                                          have hM_452 : M_451 b11 = .inr (12, fs446.set 7 (.long 0)) := by rw [eM_451]; exact va_up_self _ _ _
                                          refine lv_aload_n hx hb dX13_close_312 rfl (lv_at hl 5 rfl) ?_
                                          refine lv_iconst (v := 0) hx hb dX13_close_313 (by decide) ?_
                                          refine pg_putN (D := D) (ci := 12) (v := .int 0) (ty := .int) (C := RX12) (T := TX12) (N := 51) hx hb hg inG12 tyX12 tyX12_ok nmX12 hown hK hP hD hS hb_13.1 hM_452 rfl 15 (by decide) (hN.use (Cond.fieldLinkNest RX13 279 RX12 "mends" "I" RX13) 24 rfl rfl) (fun _ h9 => h9) rfl (by decide +kernel) rfl rfl (by rw [hn_450]; decide) dX13_close_314 (fun H_453 locs hP hD hS => ?_)
                                          have hs_456 : ((fs446.set 7 (.long 0)).set 15 (.int 0))[15]? = some (.int (nI 0)) := List.getElem?_set_self (by rw [hn_450]; decide)
                                          have hk_455 := fld12_set (k := 15) (w := .int 0) hk_448 (show fld12 K L 15 ((fs446.set 7 (.long 0)).set 15 (.int 0)) from ⟨0, hs_456, by omega⟩)
                                          have hn_457 : ((fs446.set 7 (.long 0)).set 15 (.int 0)).length = 51 := by rw [List.length_set]; exact hn_450
                                          have hv_458 : ((fs446.set 7 (.long 0)).set 15 (.int 0))[7]? = some (.long 0) := by rw [List.getElem?_set_ne (by decide)]; exact hs_449
                                          have hb_459 : 0 ≤ 20 := by omega
                                          obtain ⟨M_460, eM_460⟩ : ∃ M1 : Hp, M1 = va_up M_451 b11 (.inr (12, (fs446.set 7 (.long 0)).set 15 (.int 0))) := ⟨_, rfl⟩
                                          have hV : VW K L M M_460 b11 (va_up (va_up (va_up (fx M b11) 17 ((gnw430 : Nat) : Int)) 14 n_444) 15 (0 : Int)) (va_up (va_up (ax M b11) 44 gpw430) 45 gqw430) := by rw [eM_460]; exact hV.put hW hb_13 hM_452 hn_450 rfl (by decide) rfl (by decide)
                                          have hP : va_P D vwCl ([(za, .inr (13, [.int 0, .ref z1, .int (nI z2), .int (nI z3), .int z4, .int z5, .ref z6, .ref z7, .ref z8, .ref z9, .int (nI z10), .ref z11, .ref z12, .ref z13, .ref z14, .ref z15, .int (nI zgw430), .ref z17, .int z18, .ref z19]))] ++ va_pl L M_460) H_453 := by rw [eM_460]; exact hP
                                          have hD : va_D A ([(za, .inr (13, [.int 0, .ref z1, .int (nI z2), .int (nI z3), .int z4, .int z5, .ref z6, .ref z7, .ref z8, .ref z9, .int (nI z10), .ref z11, .ref z12, .ref z13, .ref z14, .ref z15, .int (nI zgw430), .ref z17, .int z18, .ref z19]))] ++ va_pl L M_460) := by rw [eM_460]; exact hD
                                          have hW : WOM cy K L M_460 := by rw [eM_460]; exact hW.up_12 hb_13 ⟨_, rfl, hn_457, hk_455⟩
                                          have hF : fr K L [12, 14, 15, 32, 42, 45, 46] M M_460 := by rw [eM_460]; exact hF.up hb_13 (by decide)
                                          have hG : fG K L [1, 7, 8, 13, 14, 15, 16, 17, 18] M M_460 := by rw [eM_460]; exact hG.up hM_452 (by decide)
                                          have hM_461 : M_460 b11 = .inr (12, (fs446.set 7 (.long 0)).set 15 (.int 0)) := by rw [eM_460]; exact va_up_self _ _ _
                                          refine lv_aload_n hx hb dX13_close_317 rfl (lv_at hl 5 rfl) ?_
                                          refine lv_iconst (v := 0) hx hb dX13_close_318 (by decide) ?_
                                          refine pg_putN (D := D) (ci := 12) (v := .int 0) (ty := .int) (C := RX12) (T := TX12) (N := 51) hx hb hg inG12 tyX12 tyX12_ok nmX12 hown hK hP hD hS hb_13.1 hM_461 rfl 16 (by decide) (hN.use (Cond.fieldLinkNest RX13 161 RX12 "undone" "I" RX13) 25 rfl rfl) (fun _ h9 => h9) rfl (by decide +kernel) rfl rfl (by rw [hn_457]; decide) dX13_close_319 (fun H_462 locs hP hD hS => ?_)
                                          have hs_465 : (((fs446.set 7 (.long 0)).set 15 (.int 0)).set 16 (.int 0))[16]? = some (.int (nI 0)) := List.getElem?_set_self (by rw [hn_457]; decide)
                                          have hk_464 := fld12_set (k := 16) (w := .int 0) hk_455 (show fld12 K L 16 (((fs446.set 7 (.long 0)).set 15 (.int 0)).set 16 (.int 0)) from ⟨0, hs_465, by omega⟩)
                                          have hn_466 : (((fs446.set 7 (.long 0)).set 15 (.int 0)).set 16 (.int 0)).length = 51 := by rw [List.length_set]; exact hn_457
                                          have hv_467 : (((fs446.set 7 (.long 0)).set 15 (.int 0)).set 16 (.int 0))[7]? = some (.long 0) := by rw [List.getElem?_set_ne (by decide)]; exact hv_458
                                          have hv_468 : (((fs446.set 7 (.long 0)).set 15 (.int 0)).set 16 (.int 0))[15]? = some (.int (nI 0)) := by rw [List.getElem?_set_ne (by decide)]; exact hs_456
                                          have hb_469 : 0 ≤ 60 := by omega
                                          obtain ⟨M_470, eM_470⟩ : ∃ M1 : Hp, M1 = va_up M_460 b11 (.inr (12, ((fs446.set 7 (.long 0)).set 15 (.int 0)).set 16 (.int 0))) := ⟨_, rfl⟩
                                          have hV : VW K L M M_470 b11 (va_up (va_up (va_up (va_up (fx M b11) 17 ((gnw430 : Nat) : Int)) 14 n_444) 15 (0 : Int)) 16 (0 : Int)) (va_up (va_up (ax M b11) 44 gpw430) 45 gqw430) := by rw [eM_470]; exact hV.put hW hb_13 hM_461 hn_457 rfl (by decide) rfl (by decide)
                                          have hP : va_P D vwCl ([(za, .inr (13, [.int 0, .ref z1, .int (nI z2), .int (nI z3), .int z4, .int z5, .ref z6, .ref z7, .ref z8, .ref z9, .int (nI z10), .ref z11, .ref z12, .ref z13, .ref z14, .ref z15, .int (nI zgw430), .ref z17, .int z18, .ref z19]))] ++ va_pl L M_470) H_462 := by rw [eM_470]; exact hP
                                          have hD : va_D A ([(za, .inr (13, [.int 0, .ref z1, .int (nI z2), .int (nI z3), .int z4, .int z5, .ref z6, .ref z7, .ref z8, .ref z9, .int (nI z10), .ref z11, .ref z12, .ref z13, .ref z14, .ref z15, .int (nI zgw430), .ref z17, .int z18, .ref z19]))] ++ va_pl L M_470) := by rw [eM_470]; exact hD
                                          have hW : WOM cy K L M_470 := by rw [eM_470]; exact hW.up_12 hb_13 ⟨_, rfl, hn_466, hk_464⟩
                                          have hF : fr K L [12, 14, 15, 32, 42, 45, 46] M M_470 := by rw [eM_470]; exact hF.up hb_13 (by decide)
                                          have hG : fG K L [1, 7, 8, 13, 14, 15, 16, 17, 18] M M_470 := by rw [eM_470]; exact hG.up hM_461 (by decide)
                                          have hM_471 : M_470 b11 = .inr (12, ((fs446.set 7 (.long 0)).set 15 (.int 0)).set 16 (.int 0)) := by rw [eM_470]; exact va_up_self _ _ _
                                          refine lv_aload_n hx hb dX13_close_322 rfl (lv_at hl 5 rfl) ?_
                                          refine lv_iload hx hb dX13_close_323 (lv_at hl 3 rfl) ?_
                                          refine pg_putN (D := D) (ci := 12) (v := .int (nI c_356)) (ty := .int) (C := RX12) (T := TX12) (N := 51) hx hb hg inG12 tyX12 tyX12_ok nmX12 hown hK hP hD hS hb_13.1 hM_471 rfl 1 (by decide) (hN.use (Cond.fieldLinkNest RX13 80 RX12 "to" "I" RX13) 10 rfl rfl) (fun _ h9 => h9) rfl (by decide +kernel) rfl rfl (by rw [hn_466]; decide) dX13_close_325 (fun H_472 locs hP hD hS => ?_)
                                          have hs_475 : ((((fs446.set 7 (.long 0)).set 15 (.int 0)).set 16 (.int 0)).set 1 (.int (nI c_356)))[1]? = some (.int (nI c_356)) := List.getElem?_set_self (by rw [hn_466]; decide)
                                          have hk_474 := fld12_set (k := 1) (w := .int (nI c_356)) hk_464 (show fld12 K L 1 ((((fs446.set 7 (.long 0)).set 15 (.int 0)).set 16 (.int 0)).set 1 (.int (nI c_356))) from ⟨(nI c_356), hs_475, Or.inr ⟨c_356, by omega, rfl⟩⟩)
                                          have hn_476 : ((((fs446.set 7 (.long 0)).set 15 (.int 0)).set 16 (.int 0)).set 1 (.int (nI c_356))).length = 51 := by rw [List.length_set]; exact hn_466
                                          have hv_477 : ((((fs446.set 7 (.long 0)).set 15 (.int 0)).set 16 (.int 0)).set 1 (.int (nI c_356)))[7]? = some (.long 0) := by rw [List.getElem?_set_ne (by decide)]; exact hv_467
                                          have hv_478 : ((((fs446.set 7 (.long 0)).set 15 (.int 0)).set 16 (.int 0)).set 1 (.int (nI c_356)))[15]? = some (.int (nI 0)) := by rw [List.getElem?_set_ne (by decide)]; exact hv_468
                                          have hv_479 : ((((fs446.set 7 (.long 0)).set 15 (.int 0)).set 16 (.int 0)).set 1 (.int (nI c_356)))[16]? = some (.int (nI 0)) := by rw [List.getElem?_set_ne (by decide)]; exact hs_465
                                          obtain ⟨M_480, eM_480⟩ : ∃ M1 : Hp, M1 = va_up M_470 b11 (.inr (12, (((fs446.set 7 (.long 0)).set 15 (.int 0)).set 16 (.int 0)).set 1 (.int (nI c_356)))) := ⟨_, rfl⟩
                                          have hV : VW K L M M_480 b11 (va_up (va_up (va_up (va_up (va_up (fx M b11) 17 ((gnw430 : Nat) : Int)) 14 n_444) 15 (0 : Int)) 16 (0 : Int)) 1 ((c_356 : Nat) : Int)) (va_up (va_up (ax M b11) 44 gpw430) 45 gqw430) := by rw [eM_480]; exact hV.put hW hb_13 hM_471 hn_466 rfl (by decide) rfl (nI_toInt (by omega))
                                          have hP : va_P D vwCl ([(za, .inr (13, [.int 0, .ref z1, .int (nI z2), .int (nI z3), .int z4, .int z5, .ref z6, .ref z7, .ref z8, .ref z9, .int (nI z10), .ref z11, .ref z12, .ref z13, .ref z14, .ref z15, .int (nI zgw430), .ref z17, .int z18, .ref z19]))] ++ va_pl L M_480) H_472 := by rw [eM_480]; exact hP
                                          have hD : va_D A ([(za, .inr (13, [.int 0, .ref z1, .int (nI z2), .int (nI z3), .int z4, .int z5, .ref z6, .ref z7, .ref z8, .ref z9, .int (nI z10), .ref z11, .ref z12, .ref z13, .ref z14, .ref z15, .int (nI zgw430), .ref z17, .int z18, .ref z19]))] ++ va_pl L M_480) := by rw [eM_480]; exact hD
                                          have hW : WOM cy K L M_480 := by rw [eM_480]; exact hW.up_12 hb_13 ⟨_, rfl, hn_476, hk_474⟩
                                          have hF : fr K L [12, 14, 15, 32, 42, 45, 46] M M_480 := by rw [eM_480]; exact hF.up hb_13 (by decide)
                                          have hG : fG K L [1, 7, 8, 13, 14, 15, 16, 17, 18] M M_480 := by rw [eM_480]; exact hG.up hM_471 (by decide)
                                          have hM_481 : M_480 b11 = .inr (12, (((fs446.set 7 (.long 0)).set 15 (.int 0)).set 16 (.int 0)).set 1 (.int (nI c_356))) := by rw [eM_480]; exact va_up_self _ _ _
                                          refine lv_aload_n hx hb dX13_close_328 rfl (lv_at hl 5 rfl) ?_
                                          refine lv_dup hx hb dX13_close_329 rfl ?_
                                          obtain ⟨v482, hv482, hc482⟩ : ∃ v : Nat, ((((fs446.set 7 (.long 0)).set 15 (.int 0)).set 16 (.int 0)).set 1 (.int (nI c_356)))[13]? = some (.int (nI v) : Value) ∧ v ≤ 12 := hk_474 13 (by decide)
                                          refine pg_getN (D := D) (ci := 12) (v := .int (nI v482)) (C := RX12) (T := TX12) (N := 51) hx hb hg inG12 hown hK hP hb_13.1 hM_481 rfl 13 (by decide) (hN.use (Cond.fieldLinkNest RX13 244 RX12 "closed" "I" RX13) 22 rfl rfl) (fun _ h9 => h9) hv482 dX13_close_330 ?_
                                          have hx13 : (fx M b11 13) = ((v482 : Nat) : Int) := (congrFun hV.2.1 13).symm.trans ((fx_of hM_481 rfl hv482).trans (nI_toInt (by omega)))
                                          refine lv_iconst (v := 1) hx hb dX13_close_333 (by decide) ?_
                                          refine lv_iadd hx hb dX13_close_334 ?_
                                          refine lv_topi (fun f_483 ef_483 => ?_)
                                          obtain rfl : f_483 = (nI (v482 + 1)) := ef_483.trans (nI_add v482 1)
                                          refine pg_putN (D := D) (ci := 12) (v := .int (nI (v482 + 1))) (ty := .int) (C := RX12) (T := TX12) (N := 51) hx hb hg inG12 tyX12 tyX12_ok nmX12 hown hK hP hD hS hb_13.1 hM_481 rfl 13 (by decide) (hN.use (Cond.fieldLinkNest RX13 244 RX12 "closed" "I" RX13) 22 rfl rfl) (fun _ h9 => h9) rfl (by decide +kernel) rfl rfl (by rw [hn_476]; decide) dX13_close_335 (fun H_484 locs hP hD hS => ?_)
                                          have hs_487 : (((((fs446.set 7 (.long 0)).set 15 (.int 0)).set 16 (.int 0)).set 1 (.int (nI c_356))).set 13 (.int (nI (v482 + 1))))[13]? = some (.int (nI (v482 + 1))) := List.getElem?_set_self (by rw [hn_476]; decide)
                                          have hk_486 := fld12_set (k := 13) (w := .int (nI (v482 + 1))) hk_474 (show fld12 K L 13 (((((fs446.set 7 (.long 0)).set 15 (.int 0)).set 16 (.int 0)).set 1 (.int (nI c_356))).set 13 (.int (nI (v482 + 1)))) from ⟨(v482 + 1), hs_487, by omega⟩)
                                          have hn_488 : (((((fs446.set 7 (.long 0)).set 15 (.int 0)).set 16 (.int 0)).set 1 (.int (nI c_356))).set 13 (.int (nI (v482 + 1)))).length = 51 := by rw [List.length_set]; exact hn_476
                                          have hv_489 : (((((fs446.set 7 (.long 0)).set 15 (.int 0)).set 16 (.int 0)).set 1 (.int (nI c_356))).set 13 (.int (nI (v482 + 1))))[7]? = some (.long 0) := by rw [List.getElem?_set_ne (by decide)]; exact hv_477
                                          have hv_490 : (((((fs446.set 7 (.long 0)).set 15 (.int 0)).set 16 (.int 0)).set 1 (.int (nI c_356))).set 13 (.int (nI (v482 + 1))))[15]? = some (.int (nI 0)) := by rw [List.getElem?_set_ne (by decide)]; exact hv_478
                                          have hv_491 : (((((fs446.set 7 (.long 0)).set 15 (.int 0)).set 16 (.int 0)).set 1 (.int (nI c_356))).set 13 (.int (nI (v482 + 1))))[16]? = some (.int (nI 0)) := by rw [List.getElem?_set_ne (by decide)]; exact hv_479
                                          have hv_492 : (((((fs446.set 7 (.long 0)).set 15 (.int 0)).set 16 (.int 0)).set 1 (.int (nI c_356))).set 13 (.int (nI (v482 + 1))))[1]? = some (.int (nI c_356)) := by rw [List.getElem?_set_ne (by decide)]; exact hs_475
                                          have hb_493 : (v482 + 1) ≤ 12 := by omega
                                          obtain ⟨M_494, eM_494⟩ : ∃ M1 : Hp, M1 = va_up M_480 b11 (.inr (12, ((((fs446.set 7 (.long 0)).set 15 (.int 0)).set 16 (.int 0)).set 1 (.int (nI c_356))).set 13 (.int (nI (v482 + 1))))) := ⟨_, rfl⟩
                                          have hx13 : (fx M b11 13) = ((v482 : Nat) : Int) := (congrFun hV.2.1 13).symm.trans ((fx_of hM_481 rfl hv482).trans (nI_toInt (by omega)))
                                          have hV : VW K L M M_494 b11 (va_up (va_up (va_up (va_up (va_up (va_up (fx M b11) 17 ((gnw430 : Nat) : Int)) 14 n_444) 15 (0 : Int)) 16 (0 : Int)) 1 ((c_356 : Nat) : Int)) 13 (((v482 + 1) : Nat) : Int)) (va_up (va_up (ax M b11) 44 gpw430) 45 gqw430) := by rw [eM_494]; exact hV.put hW hb_13 hM_481 hn_476 rfl (by decide) rfl (nI_toInt (by omega))
                                          have hP : va_P D vwCl ([(za, .inr (13, [.int 0, .ref z1, .int (nI z2), .int (nI z3), .int z4, .int z5, .ref z6, .ref z7, .ref z8, .ref z9, .int (nI z10), .ref z11, .ref z12, .ref z13, .ref z14, .ref z15, .int (nI zgw430), .ref z17, .int z18, .ref z19]))] ++ va_pl L M_494) H_484 := by rw [eM_494]; exact hP
                                          have hD : va_D A ([(za, .inr (13, [.int 0, .ref z1, .int (nI z2), .int (nI z3), .int z4, .int z5, .ref z6, .ref z7, .ref z8, .ref z9, .int (nI z10), .ref z11, .ref z12, .ref z13, .ref z14, .ref z15, .int (nI zgw430), .ref z17, .int z18, .ref z19]))] ++ va_pl L M_494) := by rw [eM_494]; exact hD
                                          have hW : WOM cy K L M_494 := by rw [eM_494]; exact hW.up_12 hb_13 ⟨_, rfl, hn_488, hk_486⟩
                                          have hF : fr K L [12, 14, 15, 32, 42, 45, 46] M M_494 := by rw [eM_494]; exact hF.up hb_13 (by decide)
                                          have hG : fG K L [1, 7, 8, 13, 14, 15, 16, 17, 18] M M_494 := by rw [eM_494]; exact hG.up hM_481 (by decide)
                                          have hM_495 : M_494 b11 = .inr (12, ((((fs446.set 7 (.long 0)).set 15 (.int 0)).set 16 (.int 0)).set 1 (.int (nI c_356))).set 13 (.int (nI (v482 + 1)))) := by rw [eM_494]; exact va_up_self _ _ _
                                          refine lv_aload_n hx hb dX13_close_338 rfl (lv_at hl 5 rfl) ?_
                                          refine lv_iconst (v := 1) hx hb dX13_close_339 (by decide) ?_
                                          refine pg_putN (D := D) (ci := 12) (v := .int 1) (ty := .boolean) (C := RX12) (T := TX12) (N := 51) hx hb hg inG12 tyX12 tyX12_ok nmX12 hown hK hP hD hS hb_13.1 hM_495 rfl 18 (by decide) (hN.use (Cond.fieldLinkNest RX13 288 RX12 "hasClosed" "Z" RX13) 27 rfl rfl) (fun _ h9 => h9) rfl (by decide +kernel) rfl rfl (by rw [hn_488]; decide) dX13_close_340 (fun H_496 locs hP hD hS => ?_)
                                          have hs_499 : ((((((fs446.set 7 (.long 0)).set 15 (.int 0)).set 16 (.int 0)).set 1 (.int (nI c_356))).set 13 (.int (nI (v482 + 1)))).set 18 (.int 1))[18]? = some (.int 1) := List.getElem?_set_self (by rw [hn_488]; decide)
                                          have hk_498 := fld12_set (k := 18) (w := .int 1) hk_486 (show fld12 K L 18 ((((((fs446.set 7 (.long 0)).set 15 (.int 0)).set 16 (.int 0)).set 1 (.int (nI c_356))).set 13 (.int (nI (v482 + 1)))).set 18 (.int 1)) from ⟨1, hs_499, by decide⟩)
                                          have hn_500 : ((((((fs446.set 7 (.long 0)).set 15 (.int 0)).set 16 (.int 0)).set 1 (.int (nI c_356))).set 13 (.int (nI (v482 + 1)))).set 18 (.int 1)).length = 51 := by rw [List.length_set]; exact hn_488
                                          have hv_501 : ((((((fs446.set 7 (.long 0)).set 15 (.int 0)).set 16 (.int 0)).set 1 (.int (nI c_356))).set 13 (.int (nI (v482 + 1)))).set 18 (.int 1))[7]? = some (.long 0) := by rw [List.getElem?_set_ne (by decide)]; exact hv_489
                                          have hv_502 : ((((((fs446.set 7 (.long 0)).set 15 (.int 0)).set 16 (.int 0)).set 1 (.int (nI c_356))).set 13 (.int (nI (v482 + 1)))).set 18 (.int 1))[15]? = some (.int (nI 0)) := by rw [List.getElem?_set_ne (by decide)]; exact hv_490
                                          have hv_503 : ((((((fs446.set 7 (.long 0)).set 15 (.int 0)).set 16 (.int 0)).set 1 (.int (nI c_356))).set 13 (.int (nI (v482 + 1)))).set 18 (.int 1))[16]? = some (.int (nI 0)) := by rw [List.getElem?_set_ne (by decide)]; exact hv_491
                                          have hv_504 : ((((((fs446.set 7 (.long 0)).set 15 (.int 0)).set 16 (.int 0)).set 1 (.int (nI c_356))).set 13 (.int (nI (v482 + 1)))).set 18 (.int 1))[1]? = some (.int (nI c_356)) := by rw [List.getElem?_set_ne (by decide)]; exact hv_492
                                          have hv_505 : ((((((fs446.set 7 (.long 0)).set 15 (.int 0)).set 16 (.int 0)).set 1 (.int (nI c_356))).set 13 (.int (nI (v482 + 1)))).set 18 (.int 1))[13]? = some (.int (nI (v482 + 1))) := by rw [List.getElem?_set_ne (by decide)]; exact hs_487
                                          obtain ⟨M_506, eM_506⟩ : ∃ M1 : Hp, M1 = va_up M_494 b11 (.inr (12, (((((fs446.set 7 (.long 0)).set 15 (.int 0)).set 16 (.int 0)).set 1 (.int (nI c_356))).set 13 (.int (nI (v482 + 1)))).set 18 (.int 1))) := ⟨_, rfl⟩
                                          have hV : VW K L M M_506 b11 (va_up (va_up (va_up (va_up (va_up (va_up (fx M b11) 17 ((gnw430 : Nat) : Int)) 14 n_444) 15 (0 : Int)) 16 (0 : Int)) 1 ((c_356 : Nat) : Int)) 13 (((v482 + 1) : Nat) : Int)) (va_up (va_up (ax M b11) 44 gpw430) 45 gqw430) := by rw [eM_506]; exact hV.put0 hW hb_13 hM_495 rfl rfl
                                          have hP : va_P D vwCl ([(za, .inr (13, [.int 0, .ref z1, .int (nI z2), .int (nI z3), .int z4, .int z5, .ref z6, .ref z7, .ref z8, .ref z9, .int (nI z10), .ref z11, .ref z12, .ref z13, .ref z14, .ref z15, .int (nI zgw430), .ref z17, .int z18, .ref z19]))] ++ va_pl L M_506) H_496 := by rw [eM_506]; exact hP
                                          have hD : va_D A ([(za, .inr (13, [.int 0, .ref z1, .int (nI z2), .int (nI z3), .int z4, .int z5, .ref z6, .ref z7, .ref z8, .ref z9, .int (nI z10), .ref z11, .ref z12, .ref z13, .ref z14, .ref z15, .int (nI zgw430), .ref z17, .int z18, .ref z19]))] ++ va_pl L M_506) := by rw [eM_506]; exact hD
                                          have hW : WOM cy K L M_506 := by rw [eM_506]; exact hW.up_12 hb_13 ⟨_, rfl, hn_500, hk_498⟩
                                          have hF : fr K L [12, 14, 15, 32, 42, 45, 46] M M_506 := by rw [eM_506]; exact hF.up hb_13 (by decide)
                                          have hG : fG K L [1, 7, 8, 13, 14, 15, 16, 17, 18] M M_506 := by rw [eM_506]; exact hG.up hM_495 (by decide)
                                          have hM_507 : M_506 b11 = .inr (12, (((((fs446.set 7 (.long 0)).set 15 (.int 0)).set 16 (.int 0)).set 1 (.int (nI c_356))).set 13 (.int (nI (v482 + 1)))).set 18 (.int 1)) := by rw [eM_506]; exact va_up_self _ _ _
                                          refine lv_aload_n hx hb dX13_close_343 rfl (lv_at hl 6 rfl) ?_
                                          refine lv_aload_n hx hb dX13_close_344 rfl (lv_at hl 5 rfl) ?_
                                          refine lv_iload hx hb dX13_close_345 (lv_at hl 3 rfl) ?_
                                          have hPc : va_P D vwCl ([(za, .inr (13, [.int 0, .ref z1, .int (nI z2), .int (nI z3), .int z4, .int z5, .ref z6, .ref z7, .ref z8, .ref z9, .int (nI z10), .ref z11, .ref z12, .ref z13, .ref z14, .ref z15, .int (nI zgw430), .ref z17, .int z18, .ref z19]))] ++ va_pl L M_506) H_496 := hP
                                          have hDc : va_D A ([(za, .inr (13, [.int 0, .ref z1, .int (nI z2), .int (nI z3), .int z4, .int z5, .ref z6, .ref z7, .ref z8, .ref z9, .int (nI z10), .ref z11, .ref z12, .ref z13, .ref z14, .ref z15, .int (nI zgw430), .ref z17, .int z18, .ref z19]))] ++ va_pl L M_506) := hD
                                          have hFc : ∀ q, va_A ([(za, .inr (13, [.int 0, .ref z1, .int (nI z2), .int (nI z3), .int z4, .int z5, .ref z6, .ref z7, .ref z8, .ref z9, .int (nI z10), .ref z11, .ref z12, .ref z13, .ref z14, .ref z15, .int (nI zgw430), .ref z17, .int z18, .ref z19]))] ++ va_pl L M_506) H_496.size q → A q := pg_free hDc hS hA
                                          refine va_callv (va_runV (As := [.ref b11, .int (nI c_356)]) (rest := []) ⟨hx, hb, hml, hown, hg⟩ (g_X13_incomes l D cy K L M_506 H_496.size za 0 z1 z2 z3 z4 z5 z6 z7 z8 z9 z10 z11 z12 z13 z14 z15 zgw430 z17 z18 z19 b11 c_356  hW i1 b2 b3 i6 i7 i8 i9 b10 i11 i12 i13 i14 i15 (by omega) i17 i19 hb_13 hc_357 (R5.mv hR5 i6 i7 hF (by decide) (by decide))) (cwV 2 hg (gV wd_864 wd_865 wd_866 wd_717 wd_867) rfl rfl rfl (by decide +kernel) ⟨(Nat.le_trans (Nat.le_of_ble_eq_true rfl) hRf), (Nat.le_trans (Nat.le_of_ble_eq_true rfl) hRl)⟩) ⟨PG.blind, va_recv hK hP (ci := 13) (q0 := 0) rfl rfl, fun U hU hW => ⟨rfl, PG.at hPc hK hDc hN hU hW⟩⟩ rfl rfl hl.1 rfl (lv_room (Nat.le_of_ble_eq_true rfl)) dX13_close_347 ⟨(Nat.le_trans (Nat.le_of_ble_eq_true rfl) hRc), (Nat.le_trans (Nat.le_of_ble_eq_true rfl) hRs)⟩) hS (fun q _ h => hFc q h) hFc (fun M_510 t H_508 locs ht hvm hw hB hz1 hk1 hS => ?_)
                                          have hWb := hW
                                          obtain ⟨hW, hF2, hG2, hp_511⟩ := hw
                                          obtain ⟨hP1, hD1⟩ := hB
                                          rw [ht] at hP1
                                          have hP : va_P D vwCl ([(za, .inr (13, [.int 0, .ref z1, .int (nI z2), .int (nI z3), .int z4, .int z5, .ref z6, .ref z7, .ref z8, .ref z9, .int (nI z10), .ref z11, .ref z12, .ref z13, .ref z14, .ref z15, .int (nI zgw430), .ref z17, .int z18, .ref z19]))] ++ va_pl L M_510) H_508 := hP1
                                          have hD : va_D A ([(za, .inr (13, [.int 0, .ref z1, .int (nI z2), .int (nI z3), .int z4, .int z5, .ref z6, .ref z7, .ref z8, .ref z9, .int (nI z10), .ref z11, .ref z12, .ref z13, .ref z14, .ref z15, .int (nI zgw430), .ref z17, .int z18, .ref z19]))] ++ va_pl L M_510) := hD1.mono hFc
                                          have hF : fr K L [12, 14, 15, 32, 42, 45, 46] M M_510 := hF.tr hF2 (by decide)
                                          have hG : fG K L [1, 7, 8, 13, 14, 15, 16, 17, 18] M M_510 := hG.tr hWb hG2 (by decide)
                                          have hV : VW K L M M_510 b11 (va_up (va_up (va_up (va_up (va_up (va_up (fx M b11) 17 ((gnw430 : Nat) : Int)) 14 n_444) 15 (0 : Int)) 16 (0 : Int)) 1 ((c_356 : Nat) : Int)) 13 (((v482 + 1) : Nat) : Int)) (va_up (va_up (ax M b11) 44 gpw430) 45 gqw430) := hV.cal hWb hW hF2 hG2 (by decide) (by decide) hb_13
                                          refine lv_aload_n hx hb dX13_close_350 rfl (lv_at hl 5 rfl) ?_
                                          refine lv_iload hx hb dX13_close_351 (lv_at hl 3 rfl) ?_
                                          have hPc : va_P D vwCl ([] ++ va_pl L M_510) H_508 := hP.part (cx := []) [] rfl
                                          have hDc : va_D A ([] ++ va_pl L M_510) := hD.part (cx := []) [] (by decide) rfl
                                          have hFc : ∀ q, va_A ([] ++ va_pl L M_510) H_508.size q → A q := pg_free hDc hS hA
                                          refine va_callv (va_runS (As := [.ref b11, .int (nI c_356)]) (rest := []) ⟨hx, hb, hml, hown, hg⟩ (g_X13_ends l D cy K L M_510 H_508.size b11 (nI c_356)  hW hb_13 hV.2.2.2 (by rw [hV.2.1, hV.2.2.1]; exact hAT.2.2.1)) (va_cwS 2 hg (gS wd_868 wd_869 wd_717 wd_870) rfl rfl rfl (by decide +kernel) ⟨(Nat.le_trans (Nat.le_of_ble_eq_true rfl) hRf), (Nat.le_trans (Nat.le_of_ble_eq_true rfl) hRl)⟩) ⟨PG.blind, fun U hU hW => ⟨rfl, PG.at hPc hK hDc hN hU hW⟩⟩ rfl rfl hl.1 rfl (lv_room (Nat.le_of_ble_eq_true rfl)) dX13_close_353 ⟨(Nat.le_trans (Nat.le_of_ble_eq_true rfl) hRc), (Nat.le_trans (Nat.le_of_ble_eq_true rfl) hRs)⟩) hS (fun q _ h => hFc q h) hFc (fun M_514 t H_512 locs ht hvm hw hB hz1 hk1 hS => ?_)
                                          have hWb := hW
                                          obtain ⟨hW, hF2, hG2, hVP, hp_515⟩ := hw
                                          obtain ⟨hP1, hD1⟩ := hB
                                          rw [ht] at hP1
                                          obtain ⟨hP, hD⟩ := va_joinP (X := [(za, .inr (13, [.int 0, .ref z1, .int (nI z2), .int (nI z3), .int z4, .int z5, .ref z6, .ref z7, .ref z8, .ref z9, .int (nI z10), .ref z11, .ref z12, .ref z13, .ref z14, .ref z15, .int (nI zgw430), .ref z17, .int z18, .ref z19]))]) (cx := []) (wr := [(za, .inr (13, [.int 0, .ref z1, .int (nI z2), .int (nI z3), .int z4, .int z5, .ref z6, .ref z7, .ref z8, .ref z9, .int (nI z10), .ref z11, .ref z12, .ref z13, .ref z14, .ref z15, .int (nI zgw430), .ref z17, .int z18, .ref z19]))]) (rx := []) (pl := va_pl L M_510) (pl1 := va_pl L M_514) hP hD [] [0] rfl rfl (by decide) (by decide) hk1 hFc hP1 hD1
                                          have hP : va_P D vwCl ([(za, .inr (13, [.int 0, .ref z1, .int (nI z2), .int (nI z3), .int z4, .int z5, .ref z6, .ref z7, .ref z8, .ref z9, .int (nI z10), .ref z11, .ref z12, .ref z13, .ref z14, .ref z15, .int (nI zgw430), .ref z17, .int z18, .ref z19]))] ++ va_pl L M_514) H_512 := hP
                                          have hD : va_D A ([(za, .inr (13, [.int 0, .ref z1, .int (nI z2), .int (nI z3), .int z4, .int z5, .ref z6, .ref z7, .ref z8, .ref z9, .int (nI z10), .ref z11, .ref z12, .ref z13, .ref z14, .ref z15, .int (nI zgw430), .ref z17, .int z18, .ref z19]))] ++ va_pl L M_514) := hD
                                          have hF : fr K L [12, 14, 15, 32, 42, 45, 46] M M_514 := hF.tr hF2 (by decide)
                                          have hG : fG K L [1, 7, 8, 13, 14, 15, 16, 17, 18] M M_514 := hG.tr hWb hG2 (by decide)
                                          obtain ⟨g_516, hg9, hV2⟩ := hVP
                                          rw [hV.2.2.1] at hg9
                                          rw [hV.2.1, hV.2.2.1] at hV2
                                          have hg9 : ∀ k : Nat, k < 24 → 1 ≤ ((ax M b11 23) k).toInt → 1 ≤ (g_516 k).toInt := hg9
                                          have hV : VW K L M M_514 b11 (va_up (va_up (va_up (va_up (va_up (va_up (fx M b11) 17 ((gnw430 : Nat) : Int)) 14 n_444) 15 (0 : Int)) 16 (0 : Int)) 1 ((c_356 : Nat) : Int)) 13 (((v482 + 1) : Nat) : Int)) (va_up (va_up (va_up (ax M b11) 44 gpw430) 45 gqw430) 23 g_516) := hV.tr hV2
                                          refine lv_aload_n hx hb dX13_close_356 rfl (lv_at hl 6 rfl) ?_
                                          refine lv_aload_n hx hb dX13_close_357 rfl (lv_at hl 5 rfl) ?_
                                          obtain ⟨fs517, hM517, hn517, hl517⟩ := hW.open_12 hb_13
                                          obtain ⟨v518, hv518, hc518⟩ : ∃ v : Nat, fs517[13]? = some (.int (nI v) : Value) ∧ v ≤ 12 := hl517 13 (by decide)
                                          refine pg_getN (D := D) (ci := 12) (v := .int (nI v518)) (C := RX12) (T := TX12) (N := 51) hx hb hg inG12 hown hK hP hb_13.1 hM517 rfl 13 (by decide) (hN.use (Cond.fieldLinkNest RX13 244 RX12 "closed" "I" RX13) 22 rfl rfl) (fun _ h9 => h9) hv518 dX13_close_358 ?_
                                          have hx13 : (((v482 + 1) : Nat) : Int) = ((v518 : Nat) : Int) := (congrFun hV.2.1 13).symm.trans ((fx_of hM517 rfl hv518).trans (nI_toInt (by omega)))
                                          refine lv_iconst (v := 1) hx hb dX13_close_361 (by decide) ?_
                                          refine lv_isub hx hb dX13_close_362 ?_
                                          refine lv_topi (fun f_519 ef_519 => ?_)
                                          obtain rfl : f_519 = (nI (v518 - 1)) := ef_519.trans (nI_prd (by omega))
                                          have hPc := hP.sub (ws' := [(za, .inr (13, [.int 0, .ref z1, .int (nI z2), .int (nI z3), .int z4, .int z5, .ref z6, .ref z7, .ref z8, .ref z9, .int (nI z10), .ref z11, .ref z12, .ref z13, .ref z14, .ref z15, .int (nI zgw430), .ref z17, .int z18, .ref z19]))]) [0] rfl
                                          have hDc := hD.sub (ws' := [(za, .inr (13, [.int 0, .ref z1, .int (nI z2), .int (nI z3), .int z4, .int z5, .ref z6, .ref z7, .ref z8, .ref z9, .int (nI z10), .ref z11, .ref z12, .ref z13, .ref z14, .ref z15, .int (nI zgw430), .ref z17, .int z18, .ref z19]))]) [0] (by decide) rfl
                                          have hKc := hK.sub (tys' := []) [] rfl
                                          have hFc := va_free (wc := [(za, .inr (13, [.int 0, .ref z1, .int (nI z2), .int (nI z3), .int z4, .int z5, .ref z6, .ref z7, .ref z8, .ref z9, .int (nI z10), .ref z11, .ref z12, .ref z13, .ref z14, .ref z15, .int (nI zgw430), .ref z17, .int z18, .ref z19]))]) hD hS hA [0] rfl
                                          refine va_calli (va_runV (As := [.int (nI (v518 - 1))]) (rest := []) ⟨hx, hb, hml, hown, hg⟩ (m_done l D H_512.size za 0 z1 (nI z2) (nI z3) z4 z5 z6 z7 z8 z9 (nI z10) z11 z12 z13 z14 z15 (nI zgw430) z17 z18 z19 (nI (v518 - 1))) (cwV 1 hg (gV wd_730 wd_731 wd_732 wd_717 wd_733) rfl rfl rfl (by decide +kernel) ⟨(Nat.le_trans (Nat.le_of_ble_eq_true rfl) hRf), (Nat.le_trans (Nat.le_of_ble_eq_true rfl) hRl)⟩) ⟨Pr.blind, va_recv hK hP (ci := 13) (q0 := 0) rfl rfl, fun U hU hW => ⟨rfl, Pr.at hPc hKc hDc hN hU hW⟩⟩ rfl rfl hl.1 rfl (lv_room (Nat.le_of_ble_eq_true rfl)) dX13_close_363 ⟨(Nat.le_trans (Nat.le_of_ble_eq_true rfl) hRc), (Nat.le_trans (Nat.le_of_ble_eq_true rfl) hRs)⟩) hS (fun q _ h => hFc q h) hFc (fun r_521 M_522 t H_520 locs ht hvm hw hB hz1 hk1 hS => ?_)
                                          have hp_523 := hw
                                          obtain ⟨hP1, hK1, hD1⟩ := hB
                                          rw [ht] at hP1
                                          obtain ⟨hP, hD⟩ := va_joinQ (X := [(za, .inr (13, [.int 0, .ref z1, .int (nI z2), .int (nI z3), .int z4, .int z5, .ref z6, .ref z7, .ref z8, .ref z9, .int (nI z10), .ref z11, .ref z12, .ref z13, .ref z14, .ref z15, .int (nI zgw430), .ref z17, .int z18, .ref z19]))]) (cx := [(za, .inr (13, [.int 0, .ref z1, .int (nI z2), .int (nI z3), .int z4, .int z5, .ref z6, .ref z7, .ref z8, .ref z9, .int (nI z10), .ref z11, .ref z12, .ref z13, .ref z14, .ref z15, .int (nI zgw430), .ref z17, .int z18, .ref z19]))]) (wr := []) (w1 := [(za, .inr (13, [.int 0, .ref z1, .int (nI z2), .int (nI z3), .int 0, .int (-1), .ref z6, .ref z7, .ref z8, .ref z9, .int (nI z10), .ref z11, .ref z12, .ref z13, .ref z14, .ref z15, .int (nI zgw430), .ref z17, .int z18, .ref z19]))]) (pl := va_pl L M_514) hP hD [0] [] rfl rfl (by decide) (by decide) hk1 hFc hP1 hD1
                                          have hP : va_P D vwCl ([(za, .inr (13, [.int 0, .ref z1, .int (nI z2), .int (nI z3), .int 0, .int (-1), .ref z6, .ref z7, .ref z8, .ref z9, .int (nI z10), .ref z11, .ref z12, .ref z13, .ref z14, .ref z15, .int (nI zgw430), .ref z17, .int z18, .ref z19]))] ++ va_pl L M_514) H_520 := hP
                                          have hD : va_D A ([(za, .inr (13, [.int 0, .ref z1, .int (nI z2), .int (nI z3), .int 0, .int (-1), .ref z6, .ref z7, .ref z8, .ref z9, .int (nI z10), .ref z11, .ref z12, .ref z13, .ref z14, .ref z15, .int (nI zgw430), .ref z17, .int z18, .ref z19]))] ++ va_pl L M_514) := hD
                                          have hq := Eq.symm hp_523
                                          subst hq
                                          have hA9 : HA (ax M b11 2) (ax M b11 3) := hAT.1
                                          have hB9 : HB (0 : Int) n_444 (ax M b11 3) (ax M b11 43) := HB.zero hAT.2.1.nn.1 hn14
                                          have hC9 : HC (fx M b11 10) (ax M b11 22) g_516 := HC.gr hAT.2.2.1 hg9
                                          have hD9 : HD (fx M b11 0) (fx M b11 11) (0 : Int) (ax M b11 34) (ax M b11 41) := HD.clr hAT.2.2.2.1
                                          have hE9 : HE (fx M b11 0) ((c_356 : Nat) : Int) (fx M b11 12) (((v482 + 1) : Nat) : Int) (ax M b11 37) := HE.close hAT.2.2.2.2 hb13 (by omega) (by omega) (by rw [hT37])
                                          have hH9 : HI (va_up (va_up (va_up (va_up (va_up (va_up (fx M b11) 17 ((gnw430 : Nat) : Int)) 14 n_444) 15 (0 : Int)) 16 (0 : Int)) 1 ((c_356 : Nat) : Int)) 13 (((v482 + 1) : Nat) : Int)) (va_up (va_up (va_up (ax M b11) 44 gpw430) 45 gqw430) 23 g_516) := ⟨hA9, hB9, hC9, hD9, hE9⟩
                                          have hGI9 : GI K L z1 z2 M_514 := GI.fin hW0 i1 b2 hGI hact hV (hF.at i1 (by decide)) hH9
                                          rw [hQ]
                                          exact W.iret (v := (nI (v518 - 1))) hx hb hr (fun t ht hW9 => ⟨⟨(nI (v518 - 1)), M_514, rfl, ⟨hW, hF, hG, hGI9, trivial⟩, ⟨0, (-1), zgw430, (by omega), by rw [ht]; exact hP, hD⟩⟩, hS.F ht⟩) hS.2.2 dX13_close_366
                                        · have hz := rfl (a := 0)
                                          have n_524 : ¬ (v437 ≤ v7w430) := fun q => c_438 ((iLE (a := v437) (b := v7w430) (by omega) (by omega)).mpr q)
                                          obtain ⟨v525, hv525, hc525⟩ : ∃ v : Nat, fs436[17]? = some (.int (nI v) : Value) ∧ v ≤ 120 := hl436 17 (by decide)
                                          have hx17 : ((gnw430 : Nat) : Int) = ((v525 : Nat) : Int) := (congrFun hV.2.1 17).symm.trans ((fx_of hM436 rfl hv525).trans (nI_toInt (by omega)))
                                          have hx15 : (fx M b11 15) = ((v437 : Nat) : Int) := (congrFun hV.2.1 15).symm.trans ((fx_of hM436 rfl hv437).trans (nI_toInt (by omega)))
                                          refine lv_aload_n hx hb dX13_close_287 rfl (lv_at hl 6 rfl) ?_
                                          refine lv_aload_n hx hb dX13_close_288 rfl (lv_at hl 5 rfl) ?_
                                          refine lv_iload hx hb dX13_close_289 (lv_at hl 0 rfl) ?_
                                          have hPc : va_P D vwCl ([(za, .inr (13, [.int 0, .ref z1, .int (nI z2), .int (nI z3), .int z4, .int z5, .ref z6, .ref z7, .ref z8, .ref z9, .int (nI z10), .ref z11, .ref z12, .ref z13, .ref z14, .ref z15, .int (nI zgw430), .ref z17, .int z18, .ref z19]))] ++ va_pl L M_434) H_435 := hP
                                          have hDc : va_D A ([(za, .inr (13, [.int 0, .ref z1, .int (nI z2), .int (nI z3), .int z4, .int z5, .ref z6, .ref z7, .ref z8, .ref z9, .int (nI z10), .ref z11, .ref z12, .ref z13, .ref z14, .ref z15, .int (nI zgw430), .ref z17, .int z18, .ref z19]))] ++ va_pl L M_434) := hD
                                          have hFc : ∀ q, va_A ([(za, .inr (13, [.int 0, .ref z1, .int (nI z2), .int (nI z3), .int z4, .int z5, .ref z6, .ref z7, .ref z8, .ref z9, .int (nI z10), .ref z11, .ref z12, .ref z13, .ref z14, .ref z15, .int (nI zgw430), .ref z17, .int z18, .ref z19]))] ++ va_pl L M_434) H_435.size q → A q := pg_free hDc hS hA
                                          refine va_callv (va_runV (As := [.ref b11, .int (nI v7w430)]) (rest := []) ⟨hx, hb, hml, hown, hg⟩ (g_X13_mended l D cy K L M_434 H_435.size za 0 z1 z2 z3 z4 z5 z6 z7 z8 z9 z10 z11 z12 z13 z14 z15 zgw430 z17 z18 z19 b11 v7w430  hW i1 b2 b3 i6 i7 i8 i9 b10 i11 i12 i13 i14 i15 (by omega) i17 i19 hb_13 (by omega) hV.2.2.2 ⟨_, _, hM436, hv525, by omega⟩ (by rw [hV.2.1]; exact h11) (by rw [hV.2.1, hV.2.2.1]; exact hAT.2.2.2.1) (by rw [hV.2.1]; show ((v7w430 : Nat) : Int) < fx M b11 15; omega)) (cwV 2 hg (gV wd_871 wd_872 wd_873 wd_717 wd_874) rfl rfl rfl (by decide +kernel) ⟨(Nat.le_trans (Nat.le_of_ble_eq_true rfl) hRf), (Nat.le_trans (Nat.le_of_ble_eq_true rfl) hRl)⟩) ⟨PG.blind, va_recv hK hP (ci := 13) (q0 := 0) rfl rfl, fun U hU hW => ⟨rfl, PG.at hPc hK hDc hN hU hW⟩⟩ rfl rfl hl.1 rfl (lv_room (Nat.le_of_ble_eq_true rfl)) dX13_close_291 ⟨(Nat.le_trans (Nat.le_of_ble_eq_true rfl) hRc), (Nat.le_trans (Nat.le_of_ble_eq_true rfl) hRs)⟩) hS (fun q _ h => hFc q h) hFc (fun M_528 t H_526 locs ht hvm hw hB hz1 hk1 hS => ?_)
                                          have hWb := hW
                                          obtain ⟨hW, hF2, hG2, hVP, hp_529⟩ := hw
                                          obtain ⟨w16_530, hg_531, hP1, hD1⟩ := hB
                                          rw [ht] at hP1
                                          have hP : va_P D vwCl ([(za, .inr (13, [.int 0, .ref z1, .int (nI z2), .int (nI z3), .int z4, .int z5, .ref z6, .ref z7, .ref z8, .ref z9, .int (nI z10), .ref z11, .ref z12, .ref z13, .ref z14, .ref z15, .int (nI w16_530), .ref z17, .int z18, .ref z19]))] ++ va_pl L M_528) H_526 := hP1
                                          have hD : va_D A ([(za, .inr (13, [.int 0, .ref z1, .int (nI z2), .int (nI z3), .int z4, .int z5, .ref z6, .ref z7, .ref z8, .ref z9, .int (nI z10), .ref z11, .ref z12, .ref z13, .ref z14, .ref z15, .int (nI w16_530), .ref z17, .int z18, .ref z19]))] ++ va_pl L M_528) := hD1.mono hFc
                                          have hF : fr K L [12, 14, 15, 32, 42, 45, 46] M M_528 := hF.tr hF2 (by decide)
                                          have hG : fG K L [1, 7, 8, 13, 14, 15, 16, 17, 18] M M_528 := hG.tr hWb hG2 (by decide)
                                          obtain ⟨n_532, g_533, g_534, hn17, hV2⟩ := hVP
                                          rw [hV.2.1] at hn17
                                          rw [hV.2.1, hV.2.2.1] at hV2
                                          have hn17 : ((gnw430 : Nat) : Int) = (n_532 : Int) := hn17
                                          have hV : VW K L M M_528 b11 (va_up (va_up (fx M b11) 17 ((gnw430 : Nat) : Int)) 17 ((n_532 + 1 : Nat) : Int)) (va_up (va_up (va_up (va_up (ax M b11) 44 gpw430) 45 gqw430) 44 g_533) 45 g_534) := hV.tr hV2
                                          refine lv_iinc (v := (nI (v7w430 + 1))) (lv' := [(7, .int (nI (v7w430 + 1))), (6, .int (nI v411)), (5, .int (-1)), (4, .int (nI c_356)), (3, .int (nI (c_26 + 1))), (2, .ref b11), (0, .ref za), (1, .int k1)]) hx hb dX13_close_294 hl (k := 0) rfl (nI_1 v7w430) (by decide) rfl (fun ls hl => ?_)
                                          refine lv_goto (tgt := 278) hx hb dX13_close_297 (by decide) ?_
                                          exact ih_428 (v7w430 + 1) w16_530 (n_532 + 1) g_533 g_534 M_528 H_526 _ _ (by omega) (by omega) (by omega) (by omega) hW hF hG (by have h := hV; simp only [va_up_up] at h; rw [va_up_4] at h; exact h) hP hD hS (lv_sub hl [0, 1, 2, 3, 4, 5, 6, 7] rfl)
                                    exact key_427 (24 - 0 + 1) 0 zgw420 gnw403 gpw403 gqw403 M_423 H_424 _ _ (by omega) (by omega) (by omega) (by omega) hW hF hG hV hP hD hS (lv_sub hl [0, 1, 2, 3, 4, 5, 6, 7] rfl)
                                  · have hz := rfl (a := 0)
                                    have n_535 : ¬ (v411 ≤ v7w420) := fun q => c_425 ((iLE (a := v411) (b := v7w420) (by omega) (by omega)).mpr q)
                                    refine lv_aload_n hx hb dX13_close_261 rfl (lv_at hl 6 rfl) ?_
                                    refine lv_aload_n hx hb dX13_close_262 rfl (lv_at hl 5 rfl) ?_
                                    refine lv_iload hx hb dX13_close_263 (lv_at hl 0 rfl) ?_
                                    refine lv_iload_n hx hb dX13_close_265 rfl (lv_at hl 4 rfl) ?_
                                    have hPc : va_P D vwCl ([(za, .inr (13, [.int 0, .ref z1, .int (nI z2), .int (nI z3), .int z4, .int z5, .ref z6, .ref z7, .ref z8, .ref z9, .int (nI z10), .ref z11, .ref z12, .ref z13, .ref z14, .ref z15, .int (nI zgw420), .ref z17, .int z18, .ref z19]))] ++ va_pl L M_423) H_424 := hP
                                    have hDc : va_D A ([(za, .inr (13, [.int 0, .ref z1, .int (nI z2), .int (nI z3), .int z4, .int z5, .ref z6, .ref z7, .ref z8, .ref z9, .int (nI z10), .ref z11, .ref z12, .ref z13, .ref z14, .ref z15, .int (nI zgw420), .ref z17, .int z18, .ref z19]))] ++ va_pl L M_423) := hD
                                    have hFc : ∀ q, va_A ([(za, .inr (13, [.int 0, .ref z1, .int (nI z2), .int (nI z3), .int z4, .int z5, .ref z6, .ref z7, .ref z8, .ref z9, .int (nI z10), .ref z11, .ref z12, .ref z13, .ref z14, .ref z15, .int (nI zgw420), .ref z17, .int z18, .ref z19]))] ++ va_pl L M_423) H_424.size q → A q := pg_free hDc hS hA
                                    refine va_callv (va_runV (As := [.ref b11, .int (nI v7w420), .int (nI (c_26 + 1))]) (rest := []) ⟨hx, hb, hml, hown, hg⟩ (g_X13_stretch l D cy K L M_423 H_424.size za 0 z1 z2 z3 z4 z5 z6 z7 z8 z9 z10 z11 z12 z13 z14 z15 zgw420 z17 z18 z19 b11 v7w420 (nI (c_26 + 1))  hW i1 b2 b3 i6 i7 i8 i9 b10 i11 i12 i13 i14 i15 (by omega) i17 i19 hb_13 (by omega) hV.2.2.2 (by rw [hV.2.1]; exact h11) (by rw [hV.2.1, hV.2.2.1]; exact hAT.2.2.2.1.1 h11) (by have hq9 := hs4 v7w420 (by omega); rw [hV.2.1, hV.2.2.1]; show fx M b11 0 ≤ (gpw403 v7w420).toInt; omega) (by have hq9 := hs4 v7w420 (by omega); rw [hV.2.2.1]; show (gpw403 v7w420).toInt + (gqw403 v7w420).toInt ≤ 1000; omega)) (cwV 3 hg (gV wd_875 wd_876 wd_877 wd_717 wd_878) rfl rfl rfl (by decide +kernel) ⟨(Nat.le_trans (Nat.le_of_ble_eq_true rfl) hRf), (Nat.le_trans (Nat.le_of_ble_eq_true rfl) hRl)⟩) ⟨PG.blind, va_recv hK hP (ci := 13) (q0 := 0) rfl rfl, fun U hU hW => ⟨rfl, PG.at hPc hK hDc hN hU hW⟩⟩ rfl rfl hl.1 rfl (lv_room (Nat.le_of_ble_eq_true rfl)) dX13_close_266 ⟨(Nat.le_trans (Nat.le_of_ble_eq_true rfl) hRc), (Nat.le_trans (Nat.le_of_ble_eq_true rfl) hRs)⟩) hS (fun q _ h => hFc q h) hFc (fun M_538 t H_536 locs ht hvm hw hB hz1 hk1 hS => ?_)
                                    have hWb := hW
                                    obtain ⟨hW, hF2, hG2, hp_539⟩ := hw
                                    obtain ⟨w16_540, hg_541, hP1, hD1⟩ := hB
                                    rw [ht] at hP1
                                    have hP : va_P D vwCl ([(za, .inr (13, [.int 0, .ref z1, .int (nI z2), .int (nI z3), .int z4, .int z5, .ref z6, .ref z7, .ref z8, .ref z9, .int (nI z10), .ref z11, .ref z12, .ref z13, .ref z14, .ref z15, .int (nI w16_540), .ref z17, .int z18, .ref z19]))] ++ va_pl L M_538) H_536 := hP1
                                    have hD : va_D A ([(za, .inr (13, [.int 0, .ref z1, .int (nI z2), .int (nI z3), .int z4, .int z5, .ref z6, .ref z7, .ref z8, .ref z9, .int (nI z10), .ref z11, .ref z12, .ref z13, .ref z14, .ref z15, .int (nI w16_540), .ref z17, .int z18, .ref z19]))] ++ va_pl L M_538) := hD1.mono hFc
                                    have hF : fr K L [12, 14, 15, 32, 42, 45, 46] M M_538 := hF.tr hF2 (by decide)
                                    have hG : fG K L [1, 7, 8, 13, 14, 15, 16, 17, 18] M M_538 := hG.tr hWb hG2 (by decide)
                                    have hV : VW K L M M_538 b11 (va_up (fx M b11) 17 ((gnw403 : Nat) : Int)) (va_up (va_up (ax M b11) 44 gpw403) 45 gqw403) := hV.cal hWb hW hF2 hG2 (by decide) (by decide) hb_13
                                    refine lv_iinc (v := (nI (v7w420 + 1))) (lv' := [(7, .int (nI (v7w420 + 1))), (6, .int (nI v411)), (5, .int (-1)), (4, .int (nI c_356)), (3, .int (nI (c_26 + 1))), (2, .ref b11), (0, .ref za), (1, .int k1)]) hx hb dX13_close_269 hl (k := 0) rfl (nI_1 v7w420) (by decide) rfl (fun ls hl => ?_)
                                    refine lv_goto (tgt := 254) hx hb dX13_close_272 (by decide) ?_
                                    exact ih_418 (v7w420 + 1) w16_540 M_538 H_536 _ _ (by omega) (by omega) (by omega) hW hF hG hV hP hD hS (lv_sub hl [0, 1, 2, 3, 4, 5, 6, 7] rfl)
                              exact key_417 (1001 - 0 + 1) 0 z16 M_414 H_412 _ _ (by omega) (by omega) (by omega) hW hF hG hV hP hD hS (lv_sub hl [0, 1, 2, 3, 4, 5, 6, 7] rfl)
                            · have hz := rfl (a := 0)
                              have n_542 : ¬ (c_356 < v6w403) := fun q => c_408 ((iLT (a := c_356) (b := v6w403) (by omega) (by omega)).mpr q)
                              obtain ⟨fs543, hM543, hn543, hl543⟩ := hW.open_12 hb_13
                              obtain ⟨v544, hv544, hc544⟩ : ∃ v : Nat, fs543[17]? = some (.int (nI v) : Value) ∧ v ≤ 120 := hl543 17 (by decide)
                              have hx17 : ((gnw403 : Nat) : Int) = ((v544 : Nat) : Int) := (congrFun hV.2.1 17).symm.trans ((fx_of hM543 rfl hv544).trans (nI_toInt (by omega)))
                              obtain ⟨v545, hv545, hc545⟩ : ∃ v : Nat, fs543[44]? = some (.ref v : Value) ∧ isk K L v 45 120 := hl543 44 (by decide)
                              obtain ⟨f546, hM546, hf546⟩ := hW.open_45 hc545
                              have hy44 : gpw403 = f546 := (congrFun hV.2.2.1 44).symm.trans (ax_of hM543 (by decide) hv545 hM546)
                              obtain ⟨v547, hv547, hc547⟩ : ∃ v : Nat, fs543[45]? = some (.ref v : Value) ∧ isk K L v 46 120 := hl543 45 (by decide)
                              obtain ⟨f548, hM548, hf548⟩ := hW.open_46 hc547
                              have hy45 : gqw403 = f548 := (congrFun hV.2.2.1 45).symm.trans (ax_of hM543 (by decide) hv547 hM548)
                              have hSD := hx_405
                              obtain ⟨hs1, hs2, hs3, hs4⟩ := hx_405
                              have hgn : v544 = gnw403 := by omega
                              refine lv_iload hx hb dX13_close_171 (lv_at hl 0 rfl) ?_
                              refine lv_iload_n hx hb dX13_close_173 rfl (lv_at hl 3 rfl) ?_
                              refine lv_icmp_eq (tgt := 186) hx hb dX13_close_174 (by decide) (fun c_549 => ?_) (fun c_549 => ?_)
                              · have hz := rfl (a := 0)
                                have n_550 : v6w403 = (c_26 + 1) := (iEQ (a := v6w403) (b := (c_26 + 1)) (by omega) (by omega)).mp c_549
                                refine lv_aload_n hx hb dX13_close_186 rfl (lv_at hl 4 rfl) ?_
                                refine pg_getN (D := D) (ci := 12) (v := .ref v545) (C := RX12) (T := TX12) (N := 51) hx hb hg inG12 hown hK hP hb_13.1 hM543 rfl 44 (by decide) (hN.use (Cond.fieldLinkNest RX13 265 RX12 "stretchDay" "[I" RX13) 53 rfl rfl) (fun _ h9 => h9) hv545 dX13_close_187 ?_
                                refine lv_aload_n hx hb dX13_close_190 rfl (lv_at hl 4 rfl) ?_
                                refine pg_getN (D := D) (ci := 12) (v := .int (nI v544)) (C := RX12) (T := TX12) (N := 51) hx hb hg inG12 hown hK hP hb_13.1 hM543 rfl 17 (by decide) (hN.use (Cond.fieldLinkNest RX13 256 RX12 "stretches" "I" RX13) 26 rfl rfl) (fun _ h9 => h9) hv544 dX13_close_191 ?_
                                refine lv_iload hx hb dX13_close_194 (lv_at hl 0 rfl) ?_
                                refine pg_iast hx hb hK hP hD hS hc545.1 0 hM546 rfl (inbN v544 120 (by omega) (by omega)) dX13_close_196 (fun H_551 locs hP hD hS => ?_)
                                obtain ⟨M_552, eM_552⟩ : ∃ M1 : Hp, M1 = va_up M_406 v545 (.inl (cy 14, 120, .inl (upd f546 ((nI v544) : Int32).toNatClampNeg (nI v6w403)))) := ⟨_, rfl⟩
                                have hy44 : gpw403 = f546 := (congrFun hV.2.2.1 44).symm.trans (ax_of hM543 (by decide) hv545 hM546)
                                have hV : VW K L M M_552 b11 (va_up (fx M b11) 17 ((gnw403 : Nat) : Int)) (va_up (va_up (va_up (ax M b11) 44 gpw403) 45 gqw403) 44 (upd gpw403 ((nI v544) : Int32).toNatClampNeg (nI v6w403))) := by rw [eM_552]; exact hV.ast (j := 44) hW hb_13 hM543 (by decide) hv545 hc545 hM546
                                have hP : va_P D vwCl ([(za, .inr (13, [.int 0, .ref z1, .int (nI z2), .int (nI z3), .int z4, .int z5, .ref z6, .ref z7, .ref z8, .ref z9, .int (nI z10), .ref z11, .ref z12, .ref z13, .ref z14, .ref z15, .int (nI z16), .ref z17, .int z18, .ref z19]))] ++ va_pl L M_552) H_551 := by rw [eM_552]; exact hP
                                have hD : va_D A ([(za, .inr (13, [.int 0, .ref z1, .int (nI z2), .int (nI z3), .int z4, .int z5, .ref z6, .ref z7, .ref z8, .ref z9, .int (nI z10), .ref z11, .ref z12, .ref z13, .ref z14, .ref z15, .int (nI z16), .ref z17, .int z18, .ref z19]))] ++ va_pl L M_552) := by rw [eM_552]; exact hD
                                have hW : WOM cy K L M_552 := by rw [eM_552]; exact hW.up_45 hc545 ⟨_, rfl, (updP (P := fun z => ∃ c : Nat, c < 1000 ∧ z = nI c) hf546 ⟨v6w403, by omega, rfl⟩)⟩
                                have hF : fr K L [12, 14, 15, 32, 42, 45, 46] M M_552 := by rw [eM_552]; exact hF.up hc545 (by decide)
                                have hG : fG K L [1, 7, 8, 13, 14, 15, 16, 17, 18] M M_552 := by rw [eM_552]; exact hG.arr hc545 (by decide)
                                have hM_553 : M_552 v545 = .inl (cy 14, 120, .inl (upd f546 ((nI v544) : Int32).toNatClampNeg (nI v6w403))) := by rw [eM_552]; exact va_up_self _ _ _
                                have hM_554 : M_552 b11 = .inr (12, fs543) := by rw [eM_552, va_up_ne _ _ (hb_13.neT hc545 (by decide))]; exact hM543
                                have hM_555 : M_552 v547 = .inl (cy 14, 120, .inl (f548)) := by rw [eM_552, va_up_ne _ _ (hc547.neT hc545 (by decide))]; exact hM548
                                have hf_557 : ∀ j, j < 120 → ∃ c : Nat, c < 1000 ∧ (upd f546 ((nI v544) : Int32).toNatClampNeg (nI v6w403)) j = nI c := (updP (P := fun z => ∃ c : Nat, c < 1000 ∧ z = nI c) hf546 ⟨v6w403, by omega, rfl⟩)
                                obtain ⟨f_556, ef_556⟩ : ∃ f : Nat → Int32, f = upd f546 ((nI v544) : Int32).toNatClampNeg (nI v6w403) := ⟨_, rfl⟩
                                rw [← ef_556] at hM_553 hf_557
                                refine lv_aload_n hx hb dX13_close_197 rfl (lv_at hl 4 rfl) ?_
                                refine pg_getN (D := D) (ci := 12) (v := .ref v547) (C := RX12) (T := TX12) (N := 51) hx hb hg inG12 hown hK hP hb_13.1 hM_554 rfl 45 (by decide) (hN.use (Cond.fieldLinkNest RX13 268 RX12 "stretchDays" "[I" RX13) 54 rfl rfl) (fun _ h9 => h9) hv547 dX13_close_198 ?_
                                refine lv_aload_n hx hb dX13_close_201 rfl (lv_at hl 4 rfl) ?_
                                refine pg_getN (D := D) (ci := 12) (v := .int (nI v544)) (C := RX12) (T := TX12) (N := 51) hx hb hg inG12 hown hK hP hb_13.1 hM_554 rfl 17 (by decide) (hN.use (Cond.fieldLinkNest RX13 256 RX12 "stretches" "I" RX13) 26 rfl rfl) (fun _ h9 => h9) hv544 dX13_close_202 ?_
                                refine lv_iconst (v := 0) hx hb dX13_close_205 (by decide) ?_
                                refine pg_iast hx hb hK hP hD hS hc547.1 0 hM_555 rfl (inbN v544 120 (by omega) (by omega)) dX13_close_206 (fun H_558 locs hP hD hS => ?_)
                                obtain ⟨M_559, eM_559⟩ : ∃ M1 : Hp, M1 = va_up M_552 v547 (.inl (cy 14, 120, .inl (upd f548 ((nI v544) : Int32).toNatClampNeg 0))) := ⟨_, rfl⟩
                                have hy45 : gqw403 = f548 := (congrFun hV.2.2.1 45).symm.trans (ax_of hM_554 (by decide) hv547 hM_555)
                                have hV : VW K L M M_559 b11 (va_up (fx M b11) 17 ((gnw403 : Nat) : Int)) (va_up (va_up (va_up (va_up (ax M b11) 44 gpw403) 45 gqw403) 44 (upd gpw403 ((nI v544) : Int32).toNatClampNeg (nI v6w403))) 45 (upd gqw403 ((nI v544) : Int32).toNatClampNeg 0)) := by rw [eM_559]; exact hV.ast (j := 45) hW hb_13 hM_554 (by decide) hv547 hc547 hM_555
                                have hP : va_P D vwCl ([(za, .inr (13, [.int 0, .ref z1, .int (nI z2), .int (nI z3), .int z4, .int z5, .ref z6, .ref z7, .ref z8, .ref z9, .int (nI z10), .ref z11, .ref z12, .ref z13, .ref z14, .ref z15, .int (nI z16), .ref z17, .int z18, .ref z19]))] ++ va_pl L M_559) H_558 := by rw [eM_559]; exact hP
                                have hD : va_D A ([(za, .inr (13, [.int 0, .ref z1, .int (nI z2), .int (nI z3), .int z4, .int z5, .ref z6, .ref z7, .ref z8, .ref z9, .int (nI z10), .ref z11, .ref z12, .ref z13, .ref z14, .ref z15, .int (nI z16), .ref z17, .int z18, .ref z19]))] ++ va_pl L M_559) := by rw [eM_559]; exact hD
                                have hW : WOM cy K L M_559 := by rw [eM_559]; exact hW.up_46 hc547 ⟨_, rfl, (updP (P := fun z => ∃ c : Nat, c < 1001 ∧ z = nI c) hf548 ⟨0, by omega, rfl⟩)⟩
                                have hF : fr K L [12, 14, 15, 32, 42, 45, 46] M M_559 := by rw [eM_559]; exact hF.up hc547 (by decide)
                                have hG : fG K L [1, 7, 8, 13, 14, 15, 16, 17, 18] M M_559 := by rw [eM_559]; exact hG.arr hc547 (by decide)
                                have hM_560 : M_559 v547 = .inl (cy 14, 120, .inl (upd f548 ((nI v544) : Int32).toNatClampNeg 0)) := by rw [eM_559]; exact va_up_self _ _ _
                                have hM_561 : M_559 v545 = .inl (cy 14, 120, .inl (f_556)) := by rw [eM_559, va_up_ne _ _ (hc545.neT hc547 (by decide))]; exact hM_553
                                have hM_562 : M_559 b11 = .inr (12, fs543) := by rw [eM_559, va_up_ne _ _ (hb_13.neT hc547 (by decide))]; exact hM_554
                                have hf_564 : ∀ j, j < 120 → ∃ c : Nat, c < 1001 ∧ (upd f548 ((nI v544) : Int32).toNatClampNeg 0) j = nI c := (updP (P := fun z => ∃ c : Nat, c < 1001 ∧ z = nI c) hf548 ⟨0, by omega, rfl⟩)
                                obtain ⟨f_563, ef_563⟩ : ∃ f : Nat → Int32, f = upd f548 ((nI v544) : Int32).toNatClampNeg 0 := ⟨_, rfl⟩
                                rw [← ef_563] at hM_560 hf_564
                                refine lv_aload_n hx hb dX13_close_207 rfl (lv_at hl 4 rfl) ?_
                                refine lv_dup hx hb dX13_close_208 rfl ?_
                                refine pg_getN (D := D) (ci := 12) (v := .int (nI v544)) (C := RX12) (T := TX12) (N := 51) hx hb hg inG12 hown hK hP hb_13.1 hM_562 rfl 17 (by decide) (hN.use (Cond.fieldLinkNest RX13 256 RX12 "stretches" "I" RX13) 26 rfl rfl) (fun _ h9 => h9) hv544 dX13_close_209 ?_
                                refine lv_iconst (v := 1) hx hb dX13_close_212 (by decide) ?_
                                refine lv_iadd hx hb dX13_close_213 ?_
                                refine lv_topi (fun f_565 ef_565 => ?_)
                                obtain rfl : f_565 = (nI (v544 + 1)) := ef_565.trans (nI_add v544 1)
                                refine pg_putN (D := D) (ci := 12) (v := .int (nI (v544 + 1))) (ty := .int) (C := RX12) (T := TX12) (N := 51) hx hb hg inG12 tyX12 tyX12_ok nmX12 hown hK hP hD hS hb_13.1 hM_562 rfl 17 (by decide) (hN.use (Cond.fieldLinkNest RX13 256 RX12 "stretches" "I" RX13) 26 rfl rfl) (fun _ h9 => h9) rfl (by decide +kernel) rfl rfl (by rw [hn543]; decide) dX13_close_214 (fun H_566 locs hP hD hS => ?_)
                                have hs_569 : (fs543.set 17 (.int (nI (v544 + 1))))[17]? = some (.int (nI (v544 + 1))) := List.getElem?_set_self (by rw [hn543]; decide)
                                have hk_568 := fld12_set (k := 17) (w := .int (nI (v544 + 1))) hl543 (show fld12 K L 17 (fs543.set 17 (.int (nI (v544 + 1)))) from ⟨(v544 + 1), hs_569, by omega⟩)
                                have hn_570 : (fs543.set 17 (.int (nI (v544 + 1)))).length = 51 := by rw [List.length_set]; exact hn543
                                have hv_571 : (fs543.set 17 (.int (nI (v544 + 1))))[44]? = some (.ref v545) := by rw [List.getElem?_set_ne (by decide)]; exact hv545
                                have hv_572 : (fs543.set 17 (.int (nI (v544 + 1))))[45]? = some (.ref v547) := by rw [List.getElem?_set_ne (by decide)]; exact hv547
                                have hb_573 : (v544 + 1) ≤ 120 := by omega
                                obtain ⟨M_574, eM_574⟩ : ∃ M1 : Hp, M1 = va_up M_559 b11 (.inr (12, fs543.set 17 (.int (nI (v544 + 1))))) := ⟨_, rfl⟩
                                have hx17 : ((gnw403 : Nat) : Int) = ((v544 : Nat) : Int) := (congrFun hV.2.1 17).symm.trans ((fx_of hM_562 rfl hv544).trans (nI_toInt (by omega)))
                                have hV : VW K L M M_574 b11 (va_up (va_up (fx M b11) 17 ((gnw403 : Nat) : Int)) 17 (((v544 + 1) : Nat) : Int)) (va_up (va_up (va_up (va_up (ax M b11) 44 gpw403) 45 gqw403) 44 (upd gpw403 ((nI v544) : Int32).toNatClampNeg (nI v6w403))) 45 (upd gqw403 ((nI v544) : Int32).toNatClampNeg 0)) := by rw [eM_574]; exact hV.put hW hb_13 hM_562 hn543 rfl (by decide) rfl (nI_toInt (by omega))
                                have hP : va_P D vwCl ([(za, .inr (13, [.int 0, .ref z1, .int (nI z2), .int (nI z3), .int z4, .int z5, .ref z6, .ref z7, .ref z8, .ref z9, .int (nI z10), .ref z11, .ref z12, .ref z13, .ref z14, .ref z15, .int (nI z16), .ref z17, .int z18, .ref z19]))] ++ va_pl L M_574) H_566 := by rw [eM_574]; exact hP
                                have hD : va_D A ([(za, .inr (13, [.int 0, .ref z1, .int (nI z2), .int (nI z3), .int z4, .int z5, .ref z6, .ref z7, .ref z8, .ref z9, .int (nI z10), .ref z11, .ref z12, .ref z13, .ref z14, .ref z15, .int (nI z16), .ref z17, .int z18, .ref z19]))] ++ va_pl L M_574) := by rw [eM_574]; exact hD
                                have hW : WOM cy K L M_574 := by rw [eM_574]; exact hW.up_12 hb_13 ⟨_, rfl, hn_570, hk_568⟩
                                have hF : fr K L [12, 14, 15, 32, 42, 45, 46] M M_574 := by rw [eM_574]; exact hF.up hb_13 (by decide)
                                have hG : fG K L [1, 7, 8, 13, 14, 15, 16, 17, 18] M M_574 := by rw [eM_574]; exact hG.up hM_562 (by decide)
                                have hM_575 : M_574 b11 = .inr (12, fs543.set 17 (.int (nI (v544 + 1)))) := by rw [eM_574]; exact va_up_self _ _ _
                                have hM_576 : M_574 v547 = .inl (cy 14, 120, .inl (f_563)) := by rw [eM_574, va_up_ne _ _ (hc547.neT hb_13 (by decide))]; exact hM_560
                                have hM_577 : M_574 v545 = .inl (cy 14, 120, .inl (f_556)) := by rw [eM_574, va_up_ne _ _ (hc545.neT hb_13 (by decide))]; exact hM_561
                                refine lv_aload_n hx hb dX13_close_217 rfl (lv_at hl 4 rfl) ?_
                                refine pg_getN (D := D) (ci := 12) (v := .ref v547) (C := RX12) (T := TX12) (N := 51) hx hb hg inG12 hown hK hP hb_13.1 hM_575 rfl 45 (by decide) (hN.use (Cond.fieldLinkNest RX13 268 RX12 "stretchDays" "[I" RX13) 54 rfl rfl) (fun _ h9 => h9) hv_572 dX13_close_218 ?_
                                refine lv_aload_n hx hb dX13_close_221 rfl (lv_at hl 4 rfl) ?_
                                refine pg_getN (D := D) (ci := 12) (v := .int (nI (v544 + 1))) (C := RX12) (T := TX12) (N := 51) hx hb hg inG12 hown hK hP hb_13.1 hM_575 rfl 17 (by decide) (hN.use (Cond.fieldLinkNest RX13 256 RX12 "stretches" "I" RX13) 26 rfl rfl) (fun _ h9 => h9) hs_569 dX13_close_222 ?_
                                refine lv_iconst (v := 1) hx hb dX13_close_225 (by decide) ?_
                                refine lv_isub hx hb dX13_close_226 ?_
                                refine lv_topi (fun f_578 ef_578 => ?_)
                                obtain rfl : f_578 = (nI ((v544 + 1) - 1)) := ef_578.trans (nI_prd (by omega))
                                refine lv_dup2_11 hx hb dX13_close_227 rfl rfl ?_
                                have hi_579 : vp_in (nI ((v544 + 1) - 1)) 120 := (inbN ((v544 + 1) - 1) 120 (by omega) (by omega))
                                refine pg_iald hx hb hK hP hc547.1 0 hM_576 rfl hi_579 dX13_close_228 ?_
                                have hp_580 := hf_564 _ (vp_lt hi_579)
                                obtain ⟨c_581, hc_582, ec_583⟩ := hp_580
                                rw [ec_583]
                                have hy45 : (upd gqw403 ((nI v544) : Int32).toNatClampNeg 0) = f_563 := (congrFun hV.2.2.1 45).symm.trans (ax_of hM_575 (by decide) hv_572 hM_576)
                                have hec : (upd gqw403 ((nI v544) : Int32).toNatClampNeg 0) ((nI ((v544 + 1) - 1)) : Int32).toNatClampNeg = nI c_581 := by rw [hy45]; exact ec_583
                                have hcc : c_581 = 0 := updz (n := v544) (nI_cl (by omega)) ((nI_cl (by omega)).trans (by omega)) hec (by omega)
                                refine lv_iconst (v := 1) hx hb dX13_close_229 (by decide) ?_
                                refine lv_iadd hx hb dX13_close_230 ?_
                                refine lv_topi (fun f_584 ef_584 => ?_)
                                obtain rfl : f_584 = (nI (c_581 + 1)) := ef_584.trans (nI_add c_581 1)
                                refine pg_iast hx hb hK hP hD hS hc547.1 0 hM_576 rfl (inbN ((v544 + 1) - 1) 120 (by omega) (by omega)) dX13_close_231 (fun H_585 locs hP hD hS => ?_)
                                obtain ⟨M_586, eM_586⟩ : ∃ M1 : Hp, M1 = va_up M_574 v547 (.inl (cy 14, 120, .inl (upd f_563 ((nI ((v544 + 1) - 1)) : Int32).toNatClampNeg (nI (c_581 + 1))))) := ⟨_, rfl⟩
                                have hy45 : (upd gqw403 ((nI v544) : Int32).toNatClampNeg 0) = f_563 := (congrFun hV.2.2.1 45).symm.trans (ax_of hM_575 (by decide) hv_572 hM_576)
                                have hV : VW K L M M_586 b11 (va_up (va_up (fx M b11) 17 ((gnw403 : Nat) : Int)) 17 (((v544 + 1) : Nat) : Int)) (va_up (va_up (va_up (va_up (va_up (ax M b11) 44 gpw403) 45 gqw403) 44 (upd gpw403 ((nI v544) : Int32).toNatClampNeg (nI v6w403))) 45 (upd gqw403 ((nI v544) : Int32).toNatClampNeg 0)) 45 (upd (upd gqw403 ((nI v544) : Int32).toNatClampNeg 0) ((nI ((v544 + 1) - 1)) : Int32).toNatClampNeg (nI (c_581 + 1)))) := by rw [eM_586]; exact hV.ast (j := 45) hW hb_13 hM_575 (by decide) hv_572 hc547 hM_576
                                have hP : va_P D vwCl ([(za, .inr (13, [.int 0, .ref z1, .int (nI z2), .int (nI z3), .int z4, .int z5, .ref z6, .ref z7, .ref z8, .ref z9, .int (nI z10), .ref z11, .ref z12, .ref z13, .ref z14, .ref z15, .int (nI z16), .ref z17, .int z18, .ref z19]))] ++ va_pl L M_586) H_585 := by rw [eM_586]; exact hP
                                have hD : va_D A ([(za, .inr (13, [.int 0, .ref z1, .int (nI z2), .int (nI z3), .int z4, .int z5, .ref z6, .ref z7, .ref z8, .ref z9, .int (nI z10), .ref z11, .ref z12, .ref z13, .ref z14, .ref z15, .int (nI z16), .ref z17, .int z18, .ref z19]))] ++ va_pl L M_586) := by rw [eM_586]; exact hD
                                have hW : WOM cy K L M_586 := by rw [eM_586]; exact hW.up_46 hc547 ⟨_, rfl, (updP (P := fun z => ∃ c : Nat, c < 1001 ∧ z = nI c) hf_564 ⟨(c_581 + 1), by omega, rfl⟩)⟩
                                have hF : fr K L [12, 14, 15, 32, 42, 45, 46] M M_586 := by rw [eM_586]; exact hF.up hc547 (by decide)
                                have hG : fG K L [1, 7, 8, 13, 14, 15, 16, 17, 18] M M_586 := by rw [eM_586]; exact hG.arr hc547 (by decide)
                                have hM_587 : M_586 v547 = .inl (cy 14, 120, .inl (upd f_563 ((nI ((v544 + 1) - 1)) : Int32).toNatClampNeg (nI (c_581 + 1)))) := by rw [eM_586]; exact va_up_self _ _ _
                                have hM_588 : M_586 b11 = .inr (12, fs543.set 17 (.int (nI (v544 + 1)))) := by rw [eM_586, va_up_ne _ _ (hb_13.neT hc547 (by decide))]; exact hM_575
                                have hM_589 : M_586 v545 = .inl (cy 14, 120, .inl (f_556)) := by rw [eM_586, va_up_ne _ _ (hc545.neT hc547 (by decide))]; exact hM_577
                                have hf_591 : ∀ j, j < 120 → ∃ c : Nat, c < 1001 ∧ (upd f_563 ((nI ((v544 + 1) - 1)) : Int32).toNatClampNeg (nI (c_581 + 1))) j = nI c := (updP (P := fun z => ∃ c : Nat, c < 1001 ∧ z = nI c) hf_564 ⟨(c_581 + 1), by omega, rfl⟩)
                                obtain ⟨f_590, ef_590⟩ : ∃ f : Nat → Int32, f = upd f_563 ((nI ((v544 + 1) - 1)) : Int32).toNatClampNeg (nI (c_581 + 1)) := ⟨_, rfl⟩
                                rw [← ef_590] at hM_587 hf_591
                                refine lv_iinc (v := (nI (v6w403 + 1))) (lv' := [(6, .int (nI (v6w403 + 1))), (5, .int (-1)), (4, .int (nI c_356)), (3, .int (nI (c_26 + 1))), (2, .ref b11), (0, .ref za), (1, .int k1)]) hx hb dX13_close_232 hl (k := 0) rfl (nI_1 v6w403) (by decide) rfl (fun ls hl => ?_)
                                refine lv_goto (tgt := 164) hx hb dX13_close_235 (by decide) ?_
                                exact ih_401 (v6w403 + 1) (v544 + 1) (upd gpw403 ((nI v544) : Int32).toNatClampNeg (nI v6w403)) (upd (upd gqw403 ((nI v544) : Int32).toNatClampNeg 0) ((nI ((v544 + 1) - 1)) : Int32).toNatClampNeg (nI (c_581 + 1))) M_586 H_585 _ _ (by omega) (by omega) (by have h := SD.new hSD (by omega) (show (nI v544).toNatClampNeg = gnw403 from (nI_cl (by omega)).trans (by omega)) (show (nI ((v544 + 1) - 1)).toNatClampNeg = gnw403 from (nI_cl (by omega)).trans (by omega)) hcc; rw [← hgn] at h; exact h) hW hF hG (by have h := hV; simp only [va_up_up] at h; rw [va_up_4] at h; exact h) hP hD hS (lv_sub hl [0, 1, 2, 3, 4, 5, 6] rfl)
                              · have hz := rfl (a := 0)
                                have n_592 : ¬ (v6w403 = (c_26 + 1)) := fun q => c_549 ((iEQ (a := v6w403) (b := (c_26 + 1)) (by omega) (by omega)).mpr q)
                                refine lv_aload_n hx hb dX13_close_177 rfl (lv_at hl 4 rfl) ?_
                                refine lv_iload hx hb dX13_close_178 (lv_at hl 0 rfl) ?_
                                have hPc : va_P D vwCl ([] ++ va_pl L M_406) H_407 := hP.part (cx := []) [] rfl
                                have hDc : va_D A ([] ++ va_pl L M_406) := hD.part (cx := []) [] (by decide) rfl
                                have hFc : ∀ q, va_A ([] ++ va_pl L M_406) H_407.size q → A q := pg_free hDc hS hA
                                refine va_calli (va_runS (As := [.ref b11, .int (nI v6w403)]) (rest := []) ⟨hx, hb, hml, hown, hg⟩ (r_X13_isParted l D cy K L M_406 H_407.size b11 (nI v6w403)  hW hb_13) (va_cwS 2 hg (gS wd_879 wd_880 wd_717 wd_881) rfl rfl rfl (by decide +kernel) ⟨(Nat.le_trans (Nat.le_of_ble_eq_true rfl) hRf), (Nat.le_trans (Nat.le_of_ble_eq_true rfl) hRl)⟩) ⟨PG.blind, fun U hU hW => ⟨rfl, PG.at hPc hK hDc hN hU hW⟩⟩ rfl rfl hl.1 rfl (lv_room (Nat.le_of_ble_eq_true rfl)) dX13_close_180 ⟨(Nat.le_trans (Nat.le_of_ble_eq_true rfl) hRc), (Nat.le_trans (Nat.le_of_ble_eq_true rfl) hRs)⟩) hS (fun q _ h => hFc q h) hFc (fun r_594 M_595 t H_593 locs ht hvm hw hB hz1 hk1 hS => ?_)
                                have hp_596 := hw
                                obtain ⟨hP1, hD1⟩ := hB
                                rw [ht] at hP1
                                obtain ⟨hP, hD⟩ := va_joinP (X := [(za, .inr (13, [.int 0, .ref z1, .int (nI z2), .int (nI z3), .int z4, .int z5, .ref z6, .ref z7, .ref z8, .ref z9, .int (nI z10), .ref z11, .ref z12, .ref z13, .ref z14, .ref z15, .int (nI z16), .ref z17, .int z18, .ref z19]))]) (cx := []) (wr := [(za, .inr (13, [.int 0, .ref z1, .int (nI z2), .int (nI z3), .int z4, .int z5, .ref z6, .ref z7, .ref z8, .ref z9, .int (nI z10), .ref z11, .ref z12, .ref z13, .ref z14, .ref z15, .int (nI z16), .ref z17, .int z18, .ref z19]))]) (rx := []) (pl := va_pl L M_406) (pl1 := va_pl L M_406) hP hD [] [0] rfl rfl (by decide) (by decide) hk1 hFc hP1 hD1
                                have hP : va_P D vwCl ([(za, .inr (13, [.int 0, .ref z1, .int (nI z2), .int (nI z3), .int z4, .int z5, .ref z6, .ref z7, .ref z8, .ref z9, .int (nI z10), .ref z11, .ref z12, .ref z13, .ref z14, .ref z15, .int (nI z16), .ref z17, .int z18, .ref z19]))] ++ va_pl L M_406) H_593 := hP
                                have hD : va_D A ([(za, .inr (13, [.int 0, .ref z1, .int (nI z2), .int (nI z3), .int z4, .int z5, .ref z6, .ref z7, .ref z8, .ref z9, .int (nI z10), .ref z11, .ref z12, .ref z13, .ref z14, .ref z15, .int (nI z16), .ref z17, .int z18, .ref z19]))] ++ va_pl L M_406) := hD
                                rcases hp_596 with rfl | rfl
                                · have hz := rfl (a := 0)
                                  refine lv_if_eq (tgt := 217) hx hb dX13_close_183 (by decide) (fun c_597 => absurd c_597 (by decide)) (fun _ => ?_)
                                  refine lv_aload_n hx hb dX13_close_186 rfl (lv_at hl 4 rfl) ?_
                                  refine pg_getN (D := D) (ci := 12) (v := .ref v545) (C := RX12) (T := TX12) (N := 51) hx hb hg inG12 hown hK hP hb_13.1 hM543 rfl 44 (by decide) (hN.use (Cond.fieldLinkNest RX13 265 RX12 "stretchDay" "[I" RX13) 53 rfl rfl) (fun _ h9 => h9) hv545 dX13_close_187 ?_
                                  refine lv_aload_n hx hb dX13_close_190 rfl (lv_at hl 4 rfl) ?_
                                  refine pg_getN (D := D) (ci := 12) (v := .int (nI v544)) (C := RX12) (T := TX12) (N := 51) hx hb hg inG12 hown hK hP hb_13.1 hM543 rfl 17 (by decide) (hN.use (Cond.fieldLinkNest RX13 256 RX12 "stretches" "I" RX13) 26 rfl rfl) (fun _ h9 => h9) hv544 dX13_close_191 ?_
                                  refine lv_iload hx hb dX13_close_194 (lv_at hl 0 rfl) ?_
                                  refine pg_iast hx hb hK hP hD hS hc545.1 0 hM546 rfl (inbN v544 120 (by omega) (by omega)) dX13_close_196 (fun H_598 locs hP hD hS => ?_)
                                  obtain ⟨M_599, eM_599⟩ : ∃ M1 : Hp, M1 = va_up M_406 v545 (.inl (cy 14, 120, .inl (upd f546 ((nI v544) : Int32).toNatClampNeg (nI v6w403)))) := ⟨_, rfl⟩
                                  have hy44 : gpw403 = f546 := (congrFun hV.2.2.1 44).symm.trans (ax_of hM543 (by decide) hv545 hM546)
                                  have hV : VW K L M M_599 b11 (va_up (fx M b11) 17 ((gnw403 : Nat) : Int)) (va_up (va_up (va_up (ax M b11) 44 gpw403) 45 gqw403) 44 (upd gpw403 ((nI v544) : Int32).toNatClampNeg (nI v6w403))) := by rw [eM_599]; exact hV.ast (j := 44) hW hb_13 hM543 (by decide) hv545 hc545 hM546
                                  have hP : va_P D vwCl ([(za, .inr (13, [.int 0, .ref z1, .int (nI z2), .int (nI z3), .int z4, .int z5, .ref z6, .ref z7, .ref z8, .ref z9, .int (nI z10), .ref z11, .ref z12, .ref z13, .ref z14, .ref z15, .int (nI z16), .ref z17, .int z18, .ref z19]))] ++ va_pl L M_599) H_598 := by rw [eM_599]; exact hP
                                  have hD : va_D A ([(za, .inr (13, [.int 0, .ref z1, .int (nI z2), .int (nI z3), .int z4, .int z5, .ref z6, .ref z7, .ref z8, .ref z9, .int (nI z10), .ref z11, .ref z12, .ref z13, .ref z14, .ref z15, .int (nI z16), .ref z17, .int z18, .ref z19]))] ++ va_pl L M_599) := by rw [eM_599]; exact hD
                                  have hW : WOM cy K L M_599 := by rw [eM_599]; exact hW.up_45 hc545 ⟨_, rfl, (updP (P := fun z => ∃ c : Nat, c < 1000 ∧ z = nI c) hf546 ⟨v6w403, by omega, rfl⟩)⟩
                                  have hF : fr K L [12, 14, 15, 32, 42, 45, 46] M M_599 := by rw [eM_599]; exact hF.up hc545 (by decide)
                                  have hG : fG K L [1, 7, 8, 13, 14, 15, 16, 17, 18] M M_599 := by rw [eM_599]; exact hG.arr hc545 (by decide)
                                  have hM_600 : M_599 v545 = .inl (cy 14, 120, .inl (upd f546 ((nI v544) : Int32).toNatClampNeg (nI v6w403))) := by rw [eM_599]; exact va_up_self _ _ _
                                  have hM_601 : M_599 b11 = .inr (12, fs543) := by rw [eM_599, va_up_ne _ _ (hb_13.neT hc545 (by decide))]; exact hM543
                                  have hM_602 : M_599 v547 = .inl (cy 14, 120, .inl (f548)) := by rw [eM_599, va_up_ne _ _ (hc547.neT hc545 (by decide))]; exact hM548
                                  have hf_604 : ∀ j, j < 120 → ∃ c : Nat, c < 1000 ∧ (upd f546 ((nI v544) : Int32).toNatClampNeg (nI v6w403)) j = nI c := (updP (P := fun z => ∃ c : Nat, c < 1000 ∧ z = nI c) hf546 ⟨v6w403, by omega, rfl⟩)
                                  obtain ⟨f_603, ef_603⟩ : ∃ f : Nat → Int32, f = upd f546 ((nI v544) : Int32).toNatClampNeg (nI v6w403) := ⟨_, rfl⟩
                                  rw [← ef_603] at hM_600 hf_604
                                  refine lv_aload_n hx hb dX13_close_197 rfl (lv_at hl 4 rfl) ?_
                                  refine pg_getN (D := D) (ci := 12) (v := .ref v547) (C := RX12) (T := TX12) (N := 51) hx hb hg inG12 hown hK hP hb_13.1 hM_601 rfl 45 (by decide) (hN.use (Cond.fieldLinkNest RX13 268 RX12 "stretchDays" "[I" RX13) 54 rfl rfl) (fun _ h9 => h9) hv547 dX13_close_198 ?_
                                  refine lv_aload_n hx hb dX13_close_201 rfl (lv_at hl 4 rfl) ?_
                                  refine pg_getN (D := D) (ci := 12) (v := .int (nI v544)) (C := RX12) (T := TX12) (N := 51) hx hb hg inG12 hown hK hP hb_13.1 hM_601 rfl 17 (by decide) (hN.use (Cond.fieldLinkNest RX13 256 RX12 "stretches" "I" RX13) 26 rfl rfl) (fun _ h9 => h9) hv544 dX13_close_202 ?_
                                  refine lv_iconst (v := 0) hx hb dX13_close_205 (by decide) ?_
                                  refine pg_iast hx hb hK hP hD hS hc547.1 0 hM_602 rfl (inbN v544 120 (by omega) (by omega)) dX13_close_206 (fun H_605 locs hP hD hS => ?_)
                                  obtain ⟨M_606, eM_606⟩ : ∃ M1 : Hp, M1 = va_up M_599 v547 (.inl (cy 14, 120, .inl (upd f548 ((nI v544) : Int32).toNatClampNeg 0))) := ⟨_, rfl⟩
                                  have hy45 : gqw403 = f548 := (congrFun hV.2.2.1 45).symm.trans (ax_of hM_601 (by decide) hv547 hM_602)
                                  have hV : VW K L M M_606 b11 (va_up (fx M b11) 17 ((gnw403 : Nat) : Int)) (va_up (va_up (va_up (va_up (ax M b11) 44 gpw403) 45 gqw403) 44 (upd gpw403 ((nI v544) : Int32).toNatClampNeg (nI v6w403))) 45 (upd gqw403 ((nI v544) : Int32).toNatClampNeg 0)) := by rw [eM_606]; exact hV.ast (j := 45) hW hb_13 hM_601 (by decide) hv547 hc547 hM_602
                                  have hP : va_P D vwCl ([(za, .inr (13, [.int 0, .ref z1, .int (nI z2), .int (nI z3), .int z4, .int z5, .ref z6, .ref z7, .ref z8, .ref z9, .int (nI z10), .ref z11, .ref z12, .ref z13, .ref z14, .ref z15, .int (nI z16), .ref z17, .int z18, .ref z19]))] ++ va_pl L M_606) H_605 := by rw [eM_606]; exact hP
                                  have hD : va_D A ([(za, .inr (13, [.int 0, .ref z1, .int (nI z2), .int (nI z3), .int z4, .int z5, .ref z6, .ref z7, .ref z8, .ref z9, .int (nI z10), .ref z11, .ref z12, .ref z13, .ref z14, .ref z15, .int (nI z16), .ref z17, .int z18, .ref z19]))] ++ va_pl L M_606) := by rw [eM_606]; exact hD
                                  have hW : WOM cy K L M_606 := by rw [eM_606]; exact hW.up_46 hc547 ⟨_, rfl, (updP (P := fun z => ∃ c : Nat, c < 1001 ∧ z = nI c) hf548 ⟨0, by omega, rfl⟩)⟩
                                  have hF : fr K L [12, 14, 15, 32, 42, 45, 46] M M_606 := by rw [eM_606]; exact hF.up hc547 (by decide)
                                  have hG : fG K L [1, 7, 8, 13, 14, 15, 16, 17, 18] M M_606 := by rw [eM_606]; exact hG.arr hc547 (by decide)
                                  have hM_607 : M_606 v547 = .inl (cy 14, 120, .inl (upd f548 ((nI v544) : Int32).toNatClampNeg 0)) := by rw [eM_606]; exact va_up_self _ _ _
                                  have hM_608 : M_606 v545 = .inl (cy 14, 120, .inl (f_603)) := by rw [eM_606, va_up_ne _ _ (hc545.neT hc547 (by decide))]; exact hM_600
                                  have hM_609 : M_606 b11 = .inr (12, fs543) := by rw [eM_606, va_up_ne _ _ (hb_13.neT hc547 (by decide))]; exact hM_601
                                  have hf_611 : ∀ j, j < 120 → ∃ c : Nat, c < 1001 ∧ (upd f548 ((nI v544) : Int32).toNatClampNeg 0) j = nI c := (updP (P := fun z => ∃ c : Nat, c < 1001 ∧ z = nI c) hf548 ⟨0, by omega, rfl⟩)
                                  obtain ⟨f_610, ef_610⟩ : ∃ f : Nat → Int32, f = upd f548 ((nI v544) : Int32).toNatClampNeg 0 := ⟨_, rfl⟩
                                  rw [← ef_610] at hM_607 hf_611
                                  refine lv_aload_n hx hb dX13_close_207 rfl (lv_at hl 4 rfl) ?_
                                  refine lv_dup hx hb dX13_close_208 rfl ?_
                                  refine pg_getN (D := D) (ci := 12) (v := .int (nI v544)) (C := RX12) (T := TX12) (N := 51) hx hb hg inG12 hown hK hP hb_13.1 hM_609 rfl 17 (by decide) (hN.use (Cond.fieldLinkNest RX13 256 RX12 "stretches" "I" RX13) 26 rfl rfl) (fun _ h9 => h9) hv544 dX13_close_209 ?_
                                  refine lv_iconst (v := 1) hx hb dX13_close_212 (by decide) ?_
                                  refine lv_iadd hx hb dX13_close_213 ?_
                                  refine lv_topi (fun f_612 ef_612 => ?_)
                                  obtain rfl : f_612 = (nI (v544 + 1)) := ef_612.trans (nI_add v544 1)
                                  refine pg_putN (D := D) (ci := 12) (v := .int (nI (v544 + 1))) (ty := .int) (C := RX12) (T := TX12) (N := 51) hx hb hg inG12 tyX12 tyX12_ok nmX12 hown hK hP hD hS hb_13.1 hM_609 rfl 17 (by decide) (hN.use (Cond.fieldLinkNest RX13 256 RX12 "stretches" "I" RX13) 26 rfl rfl) (fun _ h9 => h9) rfl (by decide +kernel) rfl rfl (by rw [hn543]; decide) dX13_close_214 (fun H_613 locs hP hD hS => ?_)
                                  have hs_616 : (fs543.set 17 (.int (nI (v544 + 1))))[17]? = some (.int (nI (v544 + 1))) := List.getElem?_set_self (by rw [hn543]; decide)
                                  have hk_615 := fld12_set (k := 17) (w := .int (nI (v544 + 1))) hl543 (show fld12 K L 17 (fs543.set 17 (.int (nI (v544 + 1)))) from ⟨(v544 + 1), hs_616, by omega⟩)
                                  have hn_617 : (fs543.set 17 (.int (nI (v544 + 1)))).length = 51 := by rw [List.length_set]; exact hn543
                                  have hv_618 : (fs543.set 17 (.int (nI (v544 + 1))))[44]? = some (.ref v545) := by rw [List.getElem?_set_ne (by decide)]; exact hv545
                                  have hv_619 : (fs543.set 17 (.int (nI (v544 + 1))))[45]? = some (.ref v547) := by rw [List.getElem?_set_ne (by decide)]; exact hv547
                                  have hb_620 : (v544 + 1) ≤ 120 := by omega
                                  obtain ⟨M_621, eM_621⟩ : ∃ M1 : Hp, M1 = va_up M_606 b11 (.inr (12, fs543.set 17 (.int (nI (v544 + 1))))) := ⟨_, rfl⟩
                                  have hx17 : ((gnw403 : Nat) : Int) = ((v544 : Nat) : Int) := (congrFun hV.2.1 17).symm.trans ((fx_of hM_609 rfl hv544).trans (nI_toInt (by omega)))
                                  have hV : VW K L M M_621 b11 (va_up (va_up (fx M b11) 17 ((gnw403 : Nat) : Int)) 17 (((v544 + 1) : Nat) : Int)) (va_up (va_up (va_up (va_up (ax M b11) 44 gpw403) 45 gqw403) 44 (upd gpw403 ((nI v544) : Int32).toNatClampNeg (nI v6w403))) 45 (upd gqw403 ((nI v544) : Int32).toNatClampNeg 0)) := by rw [eM_621]; exact hV.put hW hb_13 hM_609 hn543 rfl (by decide) rfl (nI_toInt (by omega))
                                  have hP : va_P D vwCl ([(za, .inr (13, [.int 0, .ref z1, .int (nI z2), .int (nI z3), .int z4, .int z5, .ref z6, .ref z7, .ref z8, .ref z9, .int (nI z10), .ref z11, .ref z12, .ref z13, .ref z14, .ref z15, .int (nI z16), .ref z17, .int z18, .ref z19]))] ++ va_pl L M_621) H_613 := by rw [eM_621]; exact hP
                                  have hD : va_D A ([(za, .inr (13, [.int 0, .ref z1, .int (nI z2), .int (nI z3), .int z4, .int z5, .ref z6, .ref z7, .ref z8, .ref z9, .int (nI z10), .ref z11, .ref z12, .ref z13, .ref z14, .ref z15, .int (nI z16), .ref z17, .int z18, .ref z19]))] ++ va_pl L M_621) := by rw [eM_621]; exact hD
                                  have hW : WOM cy K L M_621 := by rw [eM_621]; exact hW.up_12 hb_13 ⟨_, rfl, hn_617, hk_615⟩
                                  have hF : fr K L [12, 14, 15, 32, 42, 45, 46] M M_621 := by rw [eM_621]; exact hF.up hb_13 (by decide)
                                  have hG : fG K L [1, 7, 8, 13, 14, 15, 16, 17, 18] M M_621 := by rw [eM_621]; exact hG.up hM_609 (by decide)
                                  have hM_622 : M_621 b11 = .inr (12, fs543.set 17 (.int (nI (v544 + 1)))) := by rw [eM_621]; exact va_up_self _ _ _
                                  have hM_623 : M_621 v547 = .inl (cy 14, 120, .inl (f_610)) := by rw [eM_621, va_up_ne _ _ (hc547.neT hb_13 (by decide))]; exact hM_607
                                  have hM_624 : M_621 v545 = .inl (cy 14, 120, .inl (f_603)) := by rw [eM_621, va_up_ne _ _ (hc545.neT hb_13 (by decide))]; exact hM_608
                                  refine lv_aload_n hx hb dX13_close_217 rfl (lv_at hl 4 rfl) ?_
                                  refine pg_getN (D := D) (ci := 12) (v := .ref v547) (C := RX12) (T := TX12) (N := 51) hx hb hg inG12 hown hK hP hb_13.1 hM_622 rfl 45 (by decide) (hN.use (Cond.fieldLinkNest RX13 268 RX12 "stretchDays" "[I" RX13) 54 rfl rfl) (fun _ h9 => h9) hv_619 dX13_close_218 ?_
                                  refine lv_aload_n hx hb dX13_close_221 rfl (lv_at hl 4 rfl) ?_
                                  refine pg_getN (D := D) (ci := 12) (v := .int (nI (v544 + 1))) (C := RX12) (T := TX12) (N := 51) hx hb hg inG12 hown hK hP hb_13.1 hM_622 rfl 17 (by decide) (hN.use (Cond.fieldLinkNest RX13 256 RX12 "stretches" "I" RX13) 26 rfl rfl) (fun _ h9 => h9) hs_616 dX13_close_222 ?_
                                  refine lv_iconst (v := 1) hx hb dX13_close_225 (by decide) ?_
                                  refine lv_isub hx hb dX13_close_226 ?_
                                  refine lv_topi (fun f_625 ef_625 => ?_)
                                  obtain rfl : f_625 = (nI ((v544 + 1) - 1)) := ef_625.trans (nI_prd (by omega))
                                  refine lv_dup2_11 hx hb dX13_close_227 rfl rfl ?_
                                  have hi_626 : vp_in (nI ((v544 + 1) - 1)) 120 := (inbN ((v544 + 1) - 1) 120 (by omega) (by omega))
                                  refine pg_iald hx hb hK hP hc547.1 0 hM_623 rfl hi_626 dX13_close_228 ?_
                                  have hp_627 := hf_611 _ (vp_lt hi_626)
                                  obtain ⟨c_628, hc_629, ec_630⟩ := hp_627
                                  rw [ec_630]
                                  have hy45 : (upd gqw403 ((nI v544) : Int32).toNatClampNeg 0) = f_610 := (congrFun hV.2.2.1 45).symm.trans (ax_of hM_622 (by decide) hv_619 hM_623)
                                  have hec : (upd gqw403 ((nI v544) : Int32).toNatClampNeg 0) ((nI ((v544 + 1) - 1)) : Int32).toNatClampNeg = nI c_628 := by rw [hy45]; exact ec_630
                                  have hcc : c_628 = 0 := updz (n := v544) (nI_cl (by omega)) ((nI_cl (by omega)).trans (by omega)) hec (by omega)
                                  refine lv_iconst (v := 1) hx hb dX13_close_229 (by decide) ?_
                                  refine lv_iadd hx hb dX13_close_230 ?_
                                  refine lv_topi (fun f_631 ef_631 => ?_)
                                  obtain rfl : f_631 = (nI (c_628 + 1)) := ef_631.trans (nI_add c_628 1)
                                  refine pg_iast hx hb hK hP hD hS hc547.1 0 hM_623 rfl (inbN ((v544 + 1) - 1) 120 (by omega) (by omega)) dX13_close_231 (fun H_632 locs hP hD hS => ?_)
                                  obtain ⟨M_633, eM_633⟩ : ∃ M1 : Hp, M1 = va_up M_621 v547 (.inl (cy 14, 120, .inl (upd f_610 ((nI ((v544 + 1) - 1)) : Int32).toNatClampNeg (nI (c_628 + 1))))) := ⟨_, rfl⟩
                                  have hy45 : (upd gqw403 ((nI v544) : Int32).toNatClampNeg 0) = f_610 := (congrFun hV.2.2.1 45).symm.trans (ax_of hM_622 (by decide) hv_619 hM_623)
                                  have hV : VW K L M M_633 b11 (va_up (va_up (fx M b11) 17 ((gnw403 : Nat) : Int)) 17 (((v544 + 1) : Nat) : Int)) (va_up (va_up (va_up (va_up (va_up (ax M b11) 44 gpw403) 45 gqw403) 44 (upd gpw403 ((nI v544) : Int32).toNatClampNeg (nI v6w403))) 45 (upd gqw403 ((nI v544) : Int32).toNatClampNeg 0)) 45 (upd (upd gqw403 ((nI v544) : Int32).toNatClampNeg 0) ((nI ((v544 + 1) - 1)) : Int32).toNatClampNeg (nI (c_628 + 1)))) := by rw [eM_633]; exact hV.ast (j := 45) hW hb_13 hM_622 (by decide) hv_619 hc547 hM_623
                                  have hP : va_P D vwCl ([(za, .inr (13, [.int 0, .ref z1, .int (nI z2), .int (nI z3), .int z4, .int z5, .ref z6, .ref z7, .ref z8, .ref z9, .int (nI z10), .ref z11, .ref z12, .ref z13, .ref z14, .ref z15, .int (nI z16), .ref z17, .int z18, .ref z19]))] ++ va_pl L M_633) H_632 := by rw [eM_633]; exact hP
                                  have hD : va_D A ([(za, .inr (13, [.int 0, .ref z1, .int (nI z2), .int (nI z3), .int z4, .int z5, .ref z6, .ref z7, .ref z8, .ref z9, .int (nI z10), .ref z11, .ref z12, .ref z13, .ref z14, .ref z15, .int (nI z16), .ref z17, .int z18, .ref z19]))] ++ va_pl L M_633) := by rw [eM_633]; exact hD
                                  have hW : WOM cy K L M_633 := by rw [eM_633]; exact hW.up_46 hc547 ⟨_, rfl, (updP (P := fun z => ∃ c : Nat, c < 1001 ∧ z = nI c) hf_611 ⟨(c_628 + 1), by omega, rfl⟩)⟩
                                  have hF : fr K L [12, 14, 15, 32, 42, 45, 46] M M_633 := by rw [eM_633]; exact hF.up hc547 (by decide)
                                  have hG : fG K L [1, 7, 8, 13, 14, 15, 16, 17, 18] M M_633 := by rw [eM_633]; exact hG.arr hc547 (by decide)
                                  have hM_634 : M_633 v547 = .inl (cy 14, 120, .inl (upd f_610 ((nI ((v544 + 1) - 1)) : Int32).toNatClampNeg (nI (c_628 + 1)))) := by rw [eM_633]; exact va_up_self _ _ _
                                  have hM_635 : M_633 b11 = .inr (12, fs543.set 17 (.int (nI (v544 + 1)))) := by rw [eM_633, va_up_ne _ _ (hb_13.neT hc547 (by decide))]; exact hM_622
                                  have hM_636 : M_633 v545 = .inl (cy 14, 120, .inl (f_603)) := by rw [eM_633, va_up_ne _ _ (hc545.neT hc547 (by decide))]; exact hM_624
                                  have hf_638 : ∀ j, j < 120 → ∃ c : Nat, c < 1001 ∧ (upd f_610 ((nI ((v544 + 1) - 1)) : Int32).toNatClampNeg (nI (c_628 + 1))) j = nI c := (updP (P := fun z => ∃ c : Nat, c < 1001 ∧ z = nI c) hf_611 ⟨(c_628 + 1), by omega, rfl⟩)
                                  obtain ⟨f_637, ef_637⟩ : ∃ f : Nat → Int32, f = upd f_610 ((nI ((v544 + 1) - 1)) : Int32).toNatClampNeg (nI (c_628 + 1)) := ⟨_, rfl⟩
                                  rw [← ef_637] at hM_634 hf_638
                                  refine lv_iinc (v := (nI (v6w403 + 1))) (lv' := [(6, .int (nI (v6w403 + 1))), (5, .int (-1)), (4, .int (nI c_356)), (3, .int (nI (c_26 + 1))), (2, .ref b11), (0, .ref za), (1, .int k1)]) hx hb dX13_close_232 hl (k := 0) rfl (nI_1 v6w403) (by decide) rfl (fun ls hl => ?_)
                                  refine lv_goto (tgt := 164) hx hb dX13_close_235 (by decide) ?_
                                  exact ih_401 (v6w403 + 1) (v544 + 1) (upd gpw403 ((nI v544) : Int32).toNatClampNeg (nI v6w403)) (upd (upd gqw403 ((nI v544) : Int32).toNatClampNeg 0) ((nI ((v544 + 1) - 1)) : Int32).toNatClampNeg (nI (c_628 + 1))) M_633 H_632 _ _ (by omega) (by omega) (by have h := SD.new hSD (by omega) (show (nI v544).toNatClampNeg = gnw403 from (nI_cl (by omega)).trans (by omega)) (show (nI ((v544 + 1) - 1)).toNatClampNeg = gnw403 from (nI_cl (by omega)).trans (by omega)) hcc; rw [← hgn] at h; exact h) hW hF hG (by have h := hV; simp only [va_up_up] at h; rw [va_up_4] at h; exact h) hP hD hS (lv_sub hl [0, 1, 2, 3, 4, 5, 6] rfl)
                                · have hz := rfl (a := 0)
                                  refine lv_if_eq (tgt := 217) hx hb dX13_close_183 (by decide) (fun _ => ?_) (fun c_639 => absurd c_639 (by decide))
                                  refine lv_aload_n hx hb dX13_close_217 rfl (lv_at hl 4 rfl) ?_
                                  refine pg_getN (D := D) (ci := 12) (v := .ref v547) (C := RX12) (T := TX12) (N := 51) hx hb hg inG12 hown hK hP hb_13.1 hM543 rfl 45 (by decide) (hN.use (Cond.fieldLinkNest RX13 268 RX12 "stretchDays" "[I" RX13) 54 rfl rfl) (fun _ h9 => h9) hv547 dX13_close_218 ?_
                                  refine lv_aload_n hx hb dX13_close_221 rfl (lv_at hl 4 rfl) ?_
                                  refine pg_getN (D := D) (ci := 12) (v := .int (nI v544)) (C := RX12) (T := TX12) (N := 51) hx hb hg inG12 hown hK hP hb_13.1 hM543 rfl 17 (by decide) (hN.use (Cond.fieldLinkNest RX13 256 RX12 "stretches" "I" RX13) 26 rfl rfl) (fun _ h9 => h9) hv544 dX13_close_222 ?_
                                  refine lv_iconst (v := 1) hx hb dX13_close_225 (by decide) ?_
                                  refine lv_isub hx hb dX13_close_226 ?_
                                  refine lv_topi (fun f_640 ef_640 => ?_)
                                  obtain rfl : f_640 = (nI (v544 - 1)) := ef_640.trans (nI_prd (by omega))
                                  refine lv_dup2_11 hx hb dX13_close_227 rfl rfl ?_
                                  have hi_641 : vp_in (nI (v544 - 1)) 120 := (inbN (v544 - 1) 120 (by omega) (by omega))
                                  refine pg_iald hx hb hK hP hc547.1 0 hM548 rfl hi_641 dX13_close_228 ?_
                                  have hp_642 := hf548 _ (vp_lt hi_641)
                                  obtain ⟨c_643, hc_644, ec_645⟩ := hp_642
                                  rw [ec_645]
                                  have hy45 : gqw403 = f548 := (congrFun hV.2.2.1 45).symm.trans (ax_of hM543 (by decide) hv547 hM548)
                                  have hec : gqw403 ((nI (v544 - 1)) : Int32).toNatClampNeg = nI c_643 := by rw [hy45]; exact ec_645
                                  have hcc : c_643 ≤ v6w403 := SD.c hSD (by omega) ((nI_cl (by omega)).trans (by omega)) hec (by omega)
                                  refine lv_iconst (v := 1) hx hb dX13_close_229 (by decide) ?_
                                  refine lv_iadd hx hb dX13_close_230 ?_
                                  refine lv_topi (fun f_646 ef_646 => ?_)
                                  obtain rfl : f_646 = (nI (c_643 + 1)) := ef_646.trans (nI_add c_643 1)
                                  refine pg_iast hx hb hK hP hD hS hc547.1 0 hM548 rfl (inbN (v544 - 1) 120 (by omega) (by omega)) dX13_close_231 (fun H_647 locs hP hD hS => ?_)
                                  obtain ⟨M_648, eM_648⟩ : ∃ M1 : Hp, M1 = va_up M_406 v547 (.inl (cy 14, 120, .inl (upd f548 ((nI (v544 - 1)) : Int32).toNatClampNeg (nI (c_643 + 1))))) := ⟨_, rfl⟩
                                  have hy45 : gqw403 = f548 := (congrFun hV.2.2.1 45).symm.trans (ax_of hM543 (by decide) hv547 hM548)
                                  have hV : VW K L M M_648 b11 (va_up (fx M b11) 17 ((gnw403 : Nat) : Int)) (va_up (va_up (va_up (ax M b11) 44 gpw403) 45 gqw403) 45 (upd gqw403 ((nI (v544 - 1)) : Int32).toNatClampNeg (nI (c_643 + 1)))) := by rw [eM_648]; exact hV.ast (j := 45) hW hb_13 hM543 (by decide) hv547 hc547 hM548
                                  have hP : va_P D vwCl ([(za, .inr (13, [.int 0, .ref z1, .int (nI z2), .int (nI z3), .int z4, .int z5, .ref z6, .ref z7, .ref z8, .ref z9, .int (nI z10), .ref z11, .ref z12, .ref z13, .ref z14, .ref z15, .int (nI z16), .ref z17, .int z18, .ref z19]))] ++ va_pl L M_648) H_647 := by rw [eM_648]; exact hP
                                  have hD : va_D A ([(za, .inr (13, [.int 0, .ref z1, .int (nI z2), .int (nI z3), .int z4, .int z5, .ref z6, .ref z7, .ref z8, .ref z9, .int (nI z10), .ref z11, .ref z12, .ref z13, .ref z14, .ref z15, .int (nI z16), .ref z17, .int z18, .ref z19]))] ++ va_pl L M_648) := by rw [eM_648]; exact hD
                                  have hW : WOM cy K L M_648 := by rw [eM_648]; exact hW.up_46 hc547 ⟨_, rfl, (updP (P := fun z => ∃ c : Nat, c < 1001 ∧ z = nI c) hf548 ⟨(c_643 + 1), by omega, rfl⟩)⟩
                                  have hF : fr K L [12, 14, 15, 32, 42, 45, 46] M M_648 := by rw [eM_648]; exact hF.up hc547 (by decide)
                                  have hG : fG K L [1, 7, 8, 13, 14, 15, 16, 17, 18] M M_648 := by rw [eM_648]; exact hG.arr hc547 (by decide)
                                  have hM_649 : M_648 v547 = .inl (cy 14, 120, .inl (upd f548 ((nI (v544 - 1)) : Int32).toNatClampNeg (nI (c_643 + 1)))) := by rw [eM_648]; exact va_up_self _ _ _
                                  have hM_650 : M_648 b11 = .inr (12, fs543) := by rw [eM_648, va_up_ne _ _ (hb_13.neT hc547 (by decide))]; exact hM543
                                  have hM_651 : M_648 v545 = .inl (cy 14, 120, .inl (f546)) := by rw [eM_648, va_up_ne _ _ (hc545.neT hc547 (by decide))]; exact hM546
                                  have hf_653 : ∀ j, j < 120 → ∃ c : Nat, c < 1001 ∧ (upd f548 ((nI (v544 - 1)) : Int32).toNatClampNeg (nI (c_643 + 1))) j = nI c := (updP (P := fun z => ∃ c : Nat, c < 1001 ∧ z = nI c) hf548 ⟨(c_643 + 1), by omega, rfl⟩)
                                  obtain ⟨f_652, ef_652⟩ : ∃ f : Nat → Int32, f = upd f548 ((nI (v544 - 1)) : Int32).toNatClampNeg (nI (c_643 + 1)) := ⟨_, rfl⟩
                                  rw [← ef_652] at hM_649 hf_653
                                  refine lv_iinc (v := (nI (v6w403 + 1))) (lv' := [(6, .int (nI (v6w403 + 1))), (5, .int (-1)), (4, .int (nI c_356)), (3, .int (nI (c_26 + 1))), (2, .ref b11), (0, .ref za), (1, .int k1)]) hx hb dX13_close_232 hl (k := 0) rfl (nI_1 v6w403) (by decide) rfl (fun ls hl => ?_)
                                  refine lv_goto (tgt := 164) hx hb dX13_close_235 (by decide) ?_
                                  exact ih_401 (v6w403 + 1) gnw403 gpw403 (upd gqw403 ((nI (v544 - 1)) : Int32).toNatClampNeg (nI (c_643 + 1))) M_648 H_647 _ _ (by omega) (by omega) (SD.old hSD (by omega) ((nI_cl (by omega)).trans (by omega)) hec (by omega)) hW hF hG (by have h := hV; simp only [va_up_up] at h; exact h) hP hD hS (lv_sub hl [0, 1, 2, 3, 4, 5, 6] rfl)
                        exact key_400 (1001 - (c_26 + 1) + 1) (c_26 + 1) 0 (ax M b11 44) (ax M b11 45) M_395 H_396 _ _ (by omega) (by omega) (SD.rf _ _ _) hW hF hG (by rw [va_up_id, va_up_id]; exact hV) hP hD hS (lv_sub hl [0, 1, 2, 3, 4, 5, 6] rfl)
                      · have hz := rfl (a := 0)
                        have n_654 : ¬ (24 ≤ v6w393) := fun q => c_398 ((iLE (a := 24) (b := v6w393) (by omega) (by omega)).mpr q)
                        refine lv_aload_n hx hb dX13_close_147 rfl (lv_at hl 4 rfl) ?_
                        obtain ⟨v655, hv655, hc655⟩ : ∃ v : Nat, (fs14.set 17 (.int 0))[33]? = some (.ref v : Value) ∧ isk K L v 15 24 := hk_378 33 (by decide)
                        refine pg_getN (D := D) (ci := 12) (v := .ref v655) (C := RX12) (T := TX12) (N := 51) hx hb hg inG12 hown hK hP hb_13.1 hM_397 rfl 33 (by decide) (hN.use (Cond.fieldLinkNest RX13 259 RX12 "dues" "[J" RX13) 42 rfl rfl) (fun _ h9 => h9) hv655 dX13_close_148 ?_
                        refine lv_iload hx hb dX13_close_151 (lv_at hl 0 rfl) ?_
                        refine lv_lconst (v := 0) hx hb dX13_close_153 (by decide) ?_
                        obtain ⟨f656, hM656⟩ := hW.open_15 hc655
                        refine pg_last hx hb hK hP hD hS hc655.1 1 hM656 rfl (inbN v6w393 24 (by omega) (by omega)) dX13_close_154 (fun H_657 locs hP hD hS => ?_)
                        obtain ⟨M_658, eM_658⟩ : ∃ M1 : Hp, M1 = va_up M_395 v655 (.inl (cy 15, 24, .inr (.inl (vp_updL f656 ((nI v6w393) : Int32).toNatClampNeg 0)))) := ⟨_, rfl⟩
                        have hV : VW K L M M_658 b11 (va_up (fx M b11) 17 (0 : Int)) (ax M b11) := by rw [eM_658]; exact hV.oth hW hb_13 hc655 (by decide)
                        have hP : va_P D vwCl ([(za, .inr (13, [.int 0, .ref z1, .int (nI z2), .int (nI z3), .int z4, .int z5, .ref z6, .ref z7, .ref z8, .ref z9, .int (nI z10), .ref z11, .ref z12, .ref z13, .ref z14, .ref z15, .int (nI z16), .ref z17, .int z18, .ref z19]))] ++ va_pl L M_658) H_657 := by rw [eM_658]; exact hP
                        have hD : va_D A ([(za, .inr (13, [.int 0, .ref z1, .int (nI z2), .int (nI z3), .int z4, .int z5, .ref z6, .ref z7, .ref z8, .ref z9, .int (nI z10), .ref z11, .ref z12, .ref z13, .ref z14, .ref z15, .int (nI z16), .ref z17, .int z18, .ref z19]))] ++ va_pl L M_658) := by rw [eM_658]; exact hD
                        have hW : WOM cy K L M_658 := by rw [eM_658]; exact hW.up_15 hc655 ⟨_, rfl⟩
                        have hF : fr K L [12, 14, 15, 32, 42, 45, 46] M M_658 := by rw [eM_658]; exact hF.up hc655 (by decide)
                        have hG : fG K L [1, 7, 8, 13, 14, 15, 16, 17, 18] M M_658 := by rw [eM_658]; exact hG.arr hc655 (by decide)
                        have hM_659 : M_658 v655 = .inl (cy 15, 24, .inr (.inl (vp_updL f656 ((nI v6w393) : Int32).toNatClampNeg 0))) := by rw [eM_658]; exact va_up_self _ _ _
                        have hM_660 : M_658 b11 = .inr (12, fs14.set 17 (.int 0)) := by rw [eM_658, va_up_ne _ _ (hb_13.neT hc655 (by decide))]; exact hM_397
                        obtain ⟨f_661, ef_661⟩ : ∃ f : Nat → Int64, f = vp_updL f656 ((nI v6w393) : Int32).toNatClampNeg 0 := ⟨_, rfl⟩
                        rw [← ef_661] at hM_659
                        refine lv_iinc (v := (nI (v6w393 + 1))) (lv' := [(6, .int (nI (v6w393 + 1))), (5, .int (-1)), (4, .int (nI c_356)), (3, .int (nI (c_26 + 1))), (2, .ref b11), (0, .ref za), (1, .int k1)]) hx hb dX13_close_155 hl (k := 0) rfl (nI_1 v6w393) (by decide) rfl (fun ls hl => ?_)
                        refine lv_goto (tgt := 140) hx hb dX13_close_158 (by decide) ?_
                        exact ih_391 (v6w393 + 1) M_658 H_657 _ _ (by omega) hM_660 (by omega) hW hF hG hV hP hD hS (lv_sub hl [0, 1, 2, 3, 4, 5, 6] rfl)
                  exact key_390 (24 - 0 + 1) 0 M_388 H_376 _ _ (by omega) hM_389 (by omega) hW hF hG hV hP hD hS (lv_sub hl [0, 1, 2, 3, 4, 5, 6] rfl)
                · have hz := rfl (a := 0)
                  refine lv_istore (lv' := [(5, .int (nI j_373)), (4, .int (nI c_356)), (3, .int (nI (c_26 + 1))), (2, .ref b11), (0, .ref za), (1, .int k1)]) hx hb dX13_close_115 hl (by decide) rfl (fun ls hl => ?_)
                  refine lv_iload hx hb dX13_close_117 (lv_at hl 0 rfl) ?_
                  refine lv_iconst (v := (-1)) hx hb dX13_close_119 (by decide) ?_
                  refine lv_icmp_eq (tgt := 132) hx hb dX13_close_120 (by decide) (fun c_662 => absurd c_662 (nI_ne_m1 (by omega))) (fun _ => ?_)
                  refine lv_aload_n hx hb dX13_close_123 rfl (lv_at hl 4 rfl) ?_
                  refine lv_bipush (v := 7) hx hb dX13_close_124 (by decide) ?_
                  refine lv_iload hx hb dX13_close_126 (lv_at hl 0 rfl) ?_
                  have hPc := hP.sub (ws' := [(za, .inr (13, [.int 0, .ref z1, .int (nI z2), .int (nI z3), .int z4, .int z5, .ref z6, .ref z7, .ref z8, .ref z9, .int (nI z10), .ref z11, .ref z12, .ref z13, .ref z14, .ref z15, .int (nI z16), .ref z17, .int z18, .ref z19]))]) [0] rfl
                  have hDc := hD.sub (ws' := [(za, .inr (13, [.int 0, .ref z1, .int (nI z2), .int (nI z3), .int z4, .int z5, .ref z6, .ref z7, .ref z8, .ref z9, .int (nI z10), .ref z11, .ref z12, .ref z13, .ref z14, .ref z15, .int (nI z16), .ref z17, .int z18, .ref z19]))]) [0] (by decide) rfl
                  have hKc := hK.sub (tys' := []) [] rfl
                  have hFc := va_free (wc := [(za, .inr (13, [.int 0, .ref z1, .int (nI z2), .int (nI z3), .int z4, .int z5, .ref z6, .ref z7, .ref z8, .ref z9, .int (nI z10), .ref z11, .ref z12, .ref z13, .ref z14, .ref z15, .int (nI z16), .ref z17, .int z18, .ref z19]))]) hD hS hA [0] rfl
                  refine va_calli (va_runV (As := [.int 7, .int (nI j_373)]) (rest := []) ⟨hx, hb, hml, hown, hg⟩ (m_refusedAt l D H_369.size za 0 z1 (nI z2) (nI z3) z4 z5 z6 z7 z8 z9 (nI z10) z11 z12 z13 z14 z15 (nI z16) z17 z18 z19 7 (nI j_373)) (cwV 2 hg (gV wd_882 wd_883 wd_884 wd_717 wd_885) rfl rfl rfl (by decide +kernel) ⟨(Nat.le_trans (Nat.le_of_ble_eq_true rfl) hRf), (Nat.le_trans (Nat.le_of_ble_eq_true rfl) hRl)⟩) ⟨Pr.blind, va_recv hK hP (ci := 13) (q0 := 0) rfl rfl, fun U hU hW => ⟨rfl, Pr.at hPc hKc hDc hN hU hW⟩⟩ rfl rfl hl.1 rfl (lv_room (Nat.le_of_ble_eq_true rfl)) dX13_close_128 ⟨(Nat.le_trans (Nat.le_of_ble_eq_true rfl) hRc), (Nat.le_trans (Nat.le_of_ble_eq_true rfl) hRs)⟩) hS (fun q _ h => hFc q h) hFc (fun r_664 M_665 t H_663 locs ht hvm hw hB hz1 hk1 hS => ?_)
                  have hp_666 := hw
                  obtain ⟨hP1, hK1, hD1⟩ := hB
                  rw [ht] at hP1
                  obtain ⟨hP, hD⟩ := va_joinQ (X := [(za, .inr (13, [.int 0, .ref z1, .int (nI z2), .int (nI z3), .int z4, .int z5, .ref z6, .ref z7, .ref z8, .ref z9, .int (nI z10), .ref z11, .ref z12, .ref z13, .ref z14, .ref z15, .int (nI z16), .ref z17, .int z18, .ref z19]))]) (cx := [(za, .inr (13, [.int 0, .ref z1, .int (nI z2), .int (nI z3), .int z4, .int z5, .ref z6, .ref z7, .ref z8, .ref z9, .int (nI z10), .ref z11, .ref z12, .ref z13, .ref z14, .ref z15, .int (nI z16), .ref z17, .int z18, .ref z19]))]) (wr := []) (w1 := [(za, .inr (13, [.int 0, .ref z1, .int (nI z2), .int (nI z3), .int 7, .int (nI j_373), .ref z6, .ref z7, .ref z8, .ref z9, .int (nI z10), .ref z11, .ref z12, .ref z13, .ref z14, .ref z15, .int (nI z16), .ref z17, .int z18, .ref z19]))]) (pl := va_pl L M_364) hP hD [0] [] rfl rfl (by decide) (by decide) hk1 hFc hP1 hD1
                  have hP : va_P D vwCl ([(za, .inr (13, [.int 0, .ref z1, .int (nI z2), .int (nI z3), .int 7, .int (nI j_373), .ref z6, .ref z7, .ref z8, .ref z9, .int (nI z10), .ref z11, .ref z12, .ref z13, .ref z14, .ref z15, .int (nI z16), .ref z17, .int z18, .ref z19]))] ++ va_pl L M_364) H_663 := hP
                  have hD : va_D A ([(za, .inr (13, [.int 0, .ref z1, .int (nI z2), .int (nI z3), .int 7, .int (nI j_373), .ref z6, .ref z7, .ref z8, .ref z9, .int (nI z10), .ref z11, .ref z12, .ref z13, .ref z14, .ref z15, .int (nI z16), .ref z17, .int z18, .ref z19]))] ++ va_pl L M_364) := hD
                  have hq := Eq.symm hp_666
                  subst hq
                  have hA9 : HA (ax M b11 2) (ax M b11 3) := hAT.1
                  have hB9 : HB (fx M b11 16) (fx M b11 14) (ax M b11 3) (ax M b11 43) := hAT.2.1
                  have hC9 : HC (fx M b11 10) (ax M b11 22) (ax M b11 23) := hAT.2.2.1
                  have hD9 : HD (fx M b11 0) (fx M b11 11) (fx M b11 15) (ax M b11 34) (ax M b11 41) := hAT.2.2.2.1
                  have hE9 : HE (fx M b11 0) (fx M b11 1) (fx M b11 12) (fx M b11 13) (ax M b11 37) := hAT.2.2.2.2
                  have hH9 : HI (fx M b11) (ax M b11) := ⟨hA9, hB9, hC9, hD9, hE9⟩
                  have hGI9 : GI K L z1 z2 M_364 := GI.fin hW0 i1 b2 hGI hact hV (hF.at i1 (by decide)) hH9
                  rw [hQ]
                  exact W.iret (v := (-1)) hx hb hr (fun t ht hW9 => ⟨⟨(-1), M_364, rfl, ⟨hW, hF, hG, hGI9, trivial⟩, ⟨7, (nI j_373), z16, (by omega), by rw [ht]; exact hP, hD⟩⟩, hS.F ht⟩) hS.2.2 dX13_close_131
              · have hz := rfl (a := 0)
                have n_667 : ¬ (c_356 < v5w362) := fun q => c_367 ((iLT (a := c_356) (b := v5w362) (by omega) (by omega)).mpr q)
                refine lv_aload_n hx hb dX13_close_85 rfl (lv_at hl 3 rfl) ?_
                refine lv_iload hx hb dX13_close_86 (lv_at hl 0 rfl) ?_
                have hPc : va_P D vwCl ([] ++ va_pl L M_364) H_365 := hP.part (cx := []) [] rfl
                have hDc : va_D A ([] ++ va_pl L M_364) := hD.part (cx := []) [] (by decide) rfl
                have hFc : ∀ q, va_A ([] ++ va_pl L M_364) H_365.size q → A q := pg_free hDc hS hA
                refine va_calli (va_runV (As := [.int (nI v5w362)]) (rest := []) ⟨hx, hb, hml, hown, hg⟩ (r_X12_isOpen l D cy K L M_364 H_365.size b11 v5w362  hW hb_13 (by omega)) (cwV 1 hg (gV wd_752 wd_753 wd_754 wd_737 wd_755) rfl rfl rfl (by decide +kernel) ⟨(Nat.le_trans (Nat.le_of_ble_eq_true rfl) hRf), (Nat.le_trans (Nat.le_of_ble_eq_true rfl) hRl)⟩) ⟨PG.blind, pg_recv hK hP hb_13.1 hM_366 rfl, fun U hU hW => ⟨rfl, PG.at hPc hK hDc hN hU hW⟩⟩ rfl rfl hl.1 rfl (lv_room (Nat.le_of_ble_eq_true rfl)) dX13_close_88 ⟨(Nat.le_trans (Nat.le_of_ble_eq_true rfl) hRc), (Nat.le_trans (Nat.le_of_ble_eq_true rfl) hRs)⟩) hS (fun q _ h => hFc q h) hFc (fun r_669 M_670 t H_668 locs ht hvm hw hB hz1 hk1 hS => ?_)
                have hp_671 := hw
                obtain ⟨hP1, hD1⟩ := hB
                rw [ht] at hP1
                obtain ⟨hP, hD⟩ := va_joinP (X := [(za, .inr (13, [.int 0, .ref z1, .int (nI z2), .int (nI z3), .int z4, .int z5, .ref z6, .ref z7, .ref z8, .ref z9, .int (nI z10), .ref z11, .ref z12, .ref z13, .ref z14, .ref z15, .int (nI z16), .ref z17, .int z18, .ref z19]))]) (cx := []) (wr := [(za, .inr (13, [.int 0, .ref z1, .int (nI z2), .int (nI z3), .int z4, .int z5, .ref z6, .ref z7, .ref z8, .ref z9, .int (nI z10), .ref z11, .ref z12, .ref z13, .ref z14, .ref z15, .int (nI z16), .ref z17, .int z18, .ref z19]))]) (rx := []) (pl := va_pl L M_364) (pl1 := va_pl L M_364) hP hD [] [0] rfl rfl (by decide) (by decide) hk1 hFc hP1 hD1
                have hP : va_P D vwCl ([(za, .inr (13, [.int 0, .ref z1, .int (nI z2), .int (nI z3), .int z4, .int z5, .ref z6, .ref z7, .ref z8, .ref z9, .int (nI z10), .ref z11, .ref z12, .ref z13, .ref z14, .ref z15, .int (nI z16), .ref z17, .int z18, .ref z19]))] ++ va_pl L M_364) H_668 := hP
                have hD : va_D A ([(za, .inr (13, [.int 0, .ref z1, .int (nI z2), .int (nI z3), .int z4, .int z5, .ref z6, .ref z7, .ref z8, .ref z9, .int (nI z10), .ref z11, .ref z12, .ref z13, .ref z14, .ref z15, .int (nI z16), .ref z17, .int z18, .ref z19]))] ++ va_pl L M_364) := hD
                rcases hp_671 with rfl | rfl
                · have hz := rfl (a := 0)
                  refine lv_if_eq (tgt := 102) hx hb dX13_close_91 (by decide) (fun c_672 => absurd c_672 (by decide)) (fun _ => ?_)
                  refine lv_aload_n hx hb dX13_close_94 rfl (lv_at hl 4 rfl) ?_
                  refine lv_iconst (v := 5) hx hb dX13_close_95 (by decide) ?_
                  refine lv_iload hx hb dX13_close_96 (lv_at hl 0 rfl) ?_
                  have hPc := hP.sub (ws' := [(za, .inr (13, [.int 0, .ref z1, .int (nI z2), .int (nI z3), .int z4, .int z5, .ref z6, .ref z7, .ref z8, .ref z9, .int (nI z10), .ref z11, .ref z12, .ref z13, .ref z14, .ref z15, .int (nI z16), .ref z17, .int z18, .ref z19]))]) [0] rfl
                  have hDc := hD.sub (ws' := [(za, .inr (13, [.int 0, .ref z1, .int (nI z2), .int (nI z3), .int z4, .int z5, .ref z6, .ref z7, .ref z8, .ref z9, .int (nI z10), .ref z11, .ref z12, .ref z13, .ref z14, .ref z15, .int (nI z16), .ref z17, .int z18, .ref z19]))]) [0] (by decide) rfl
                  have hKc := hK.sub (tys' := []) [] rfl
                  have hFc := va_free (wc := [(za, .inr (13, [.int 0, .ref z1, .int (nI z2), .int (nI z3), .int z4, .int z5, .ref z6, .ref z7, .ref z8, .ref z9, .int (nI z10), .ref z11, .ref z12, .ref z13, .ref z14, .ref z15, .int (nI z16), .ref z17, .int z18, .ref z19]))]) hD hS hA [0] rfl
                  refine va_calli (va_runV (As := [.int 5, .int (nI v5w362)]) (rest := []) ⟨hx, hb, hml, hown, hg⟩ (m_refusedAt l D H_668.size za 0 z1 (nI z2) (nI z3) z4 z5 z6 z7 z8 z9 (nI z10) z11 z12 z13 z14 z15 (nI z16) z17 z18 z19 5 (nI v5w362)) (cwV 2 hg (gV wd_882 wd_883 wd_884 wd_717 wd_885) rfl rfl rfl (by decide +kernel) ⟨(Nat.le_trans (Nat.le_of_ble_eq_true rfl) hRf), (Nat.le_trans (Nat.le_of_ble_eq_true rfl) hRl)⟩) ⟨Pr.blind, va_recv hK hP (ci := 13) (q0 := 0) rfl rfl, fun U hU hW => ⟨rfl, Pr.at hPc hKc hDc hN hU hW⟩⟩ rfl rfl hl.1 rfl (lv_room (Nat.le_of_ble_eq_true rfl)) dX13_close_98 ⟨(Nat.le_trans (Nat.le_of_ble_eq_true rfl) hRc), (Nat.le_trans (Nat.le_of_ble_eq_true rfl) hRs)⟩) hS (fun q _ h => hFc q h) hFc (fun r_674 M_675 t H_673 locs ht hvm hw hB hz1 hk1 hS => ?_)
                  have hp_676 := hw
                  obtain ⟨hP1, hK1, hD1⟩ := hB
                  rw [ht] at hP1
                  obtain ⟨hP, hD⟩ := va_joinQ (X := [(za, .inr (13, [.int 0, .ref z1, .int (nI z2), .int (nI z3), .int z4, .int z5, .ref z6, .ref z7, .ref z8, .ref z9, .int (nI z10), .ref z11, .ref z12, .ref z13, .ref z14, .ref z15, .int (nI z16), .ref z17, .int z18, .ref z19]))]) (cx := [(za, .inr (13, [.int 0, .ref z1, .int (nI z2), .int (nI z3), .int z4, .int z5, .ref z6, .ref z7, .ref z8, .ref z9, .int (nI z10), .ref z11, .ref z12, .ref z13, .ref z14, .ref z15, .int (nI z16), .ref z17, .int z18, .ref z19]))]) (wr := []) (w1 := [(za, .inr (13, [.int 0, .ref z1, .int (nI z2), .int (nI z3), .int 5, .int (nI v5w362), .ref z6, .ref z7, .ref z8, .ref z9, .int (nI z10), .ref z11, .ref z12, .ref z13, .ref z14, .ref z15, .int (nI z16), .ref z17, .int z18, .ref z19]))]) (pl := va_pl L M_364) hP hD [0] [] rfl rfl (by decide) (by decide) hk1 hFc hP1 hD1
                  have hP : va_P D vwCl ([(za, .inr (13, [.int 0, .ref z1, .int (nI z2), .int (nI z3), .int 5, .int (nI v5w362), .ref z6, .ref z7, .ref z8, .ref z9, .int (nI z10), .ref z11, .ref z12, .ref z13, .ref z14, .ref z15, .int (nI z16), .ref z17, .int z18, .ref z19]))] ++ va_pl L M_364) H_673 := hP
                  have hD : va_D A ([(za, .inr (13, [.int 0, .ref z1, .int (nI z2), .int (nI z3), .int 5, .int (nI v5w362), .ref z6, .ref z7, .ref z8, .ref z9, .int (nI z10), .ref z11, .ref z12, .ref z13, .ref z14, .ref z15, .int (nI z16), .ref z17, .int z18, .ref z19]))] ++ va_pl L M_364) := hD
                  have hq := Eq.symm hp_676
                  subst hq
                  have hA9 : HA (ax M b11 2) (ax M b11 3) := hAT.1
                  have hB9 : HB (fx M b11 16) (fx M b11 14) (ax M b11 3) (ax M b11 43) := hAT.2.1
                  have hC9 : HC (fx M b11 10) (ax M b11 22) (ax M b11 23) := hAT.2.2.1
                  have hD9 : HD (fx M b11 0) (fx M b11 11) (fx M b11 15) (ax M b11 34) (ax M b11 41) := hAT.2.2.2.1
                  have hE9 : HE (fx M b11 0) (fx M b11 1) (fx M b11 12) (fx M b11 13) (ax M b11 37) := hAT.2.2.2.2
                  have hH9 : HI (fx M b11) (ax M b11) := ⟨hA9, hB9, hC9, hD9, hE9⟩
                  have hGI9 : GI K L z1 z2 M_364 := GI.fin hW0 i1 b2 hGI hact hV (hF.at i1 (by decide)) hH9
                  rw [hQ]
                  exact W.iret (v := (-1)) hx hb hr (fun t ht hW9 => ⟨⟨(-1), M_364, rfl, ⟨hW, hF, hG, hGI9, trivial⟩, ⟨5, (nI v5w362), z16, (by omega), by rw [ht]; exact hP, hD⟩⟩, hS.F ht⟩) hS.2.2 dX13_close_101
                · have hz := rfl (a := 0)
                  refine lv_if_eq (tgt := 102) hx hb dX13_close_91 (by decide) (fun _ => ?_) (fun c_677 => absurd c_677 (by decide))
                  refine lv_iinc (v := (nI (v5w362 + 1))) (lv' := [(5, .int (nI (v5w362 + 1))), (4, .int (nI c_356)), (3, .int (nI (c_26 + 1))), (2, .ref b11), (0, .ref za), (1, .int k1)]) hx hb dX13_close_102 hl (k := 0) rfl (nI_1 v5w362) (by decide) rfl (fun ls hl => ?_)
                  refine lv_goto (tgt := 78) hx hb dX13_close_105 (by decide) ?_
                  exact ih_360 (v5w362 + 1) M_364 H_668 _ _ (by omega) hM_366 (by omega) hW hF hG hV hP hD hS (lv_sub hl [0, 1, 2, 3, 4, 5] rfl)
          exact key_359 (1001 - (c_26 + 1) + 1) (c_26 + 1) M H_2 _ _ (by omega) hM14 (by omega) hW hF hG hV hP hD hS (lv_sub hl [0, 1, 2, 3, 4, 5] rfl)
      · have hz := rfl (a := 0)
        have n_678 : v17 = 0 := (iEQ (a := v17) (b := 0) (by omega) (by omega)).mp c_24
        refine lv_aload_n hx hb dX13_close_51 rfl (lv_at hl 1 rfl) ?_
        refine lv_iconst (v := 1) hx hb dX13_close_52 (by decide) ?_
        have hPc := hP.sub (ws' := [(za, .inr (13, [.int 0, .ref z1, .int (nI z2), .int (nI z3), .int z4, .int z5, .ref z6, .ref z7, .ref z8, .ref z9, .int (nI z10), .ref z11, .ref z12, .ref z13, .ref z14, .ref z15, .int (nI z16), .ref z17, .int z18, .ref z19]))]) [0] rfl
        have hDc := hD.sub (ws' := [(za, .inr (13, [.int 0, .ref z1, .int (nI z2), .int (nI z3), .int z4, .int z5, .ref z6, .ref z7, .ref z8, .ref z9, .int (nI z10), .ref z11, .ref z12, .ref z13, .ref z14, .ref z15, .int (nI z16), .ref z17, .int z18, .ref z19]))]) [0] (by decide) rfl
        have hKc := hK.sub (tys' := []) [] rfl
        have hFc := va_free (wc := [(za, .inr (13, [.int 0, .ref z1, .int (nI z2), .int (nI z3), .int z4, .int z5, .ref z6, .ref z7, .ref z8, .ref z9, .int (nI z10), .ref z11, .ref z12, .ref z13, .ref z14, .ref z15, .int (nI z16), .ref z17, .int z18, .ref z19]))]) hD hS hA [0] rfl
        refine va_calli (va_runV (As := [.int 1]) (rest := []) ⟨hx, hb, hml, hown, hg⟩ (m_refused l D H_2.size za 0 z1 (nI z2) (nI z3) z4 z5 z6 z7 z8 z9 (nI z10) z11 z12 z13 z14 z15 (nI z16) z17 z18 z19 1) (cwV 1 hg (gV wd_725 wd_726 wd_727 wd_717 wd_728) rfl rfl rfl (by decide +kernel) ⟨(Nat.le_trans (Nat.le_of_ble_eq_true rfl) hRf), (Nat.le_trans (Nat.le_of_ble_eq_true rfl) hRl)⟩) ⟨Pr.blind, va_recv hK hP (ci := 13) (q0 := 0) rfl rfl, fun U hU hW => ⟨rfl, Pr.at hPc hKc hDc hN hU hW⟩⟩ rfl rfl hl.1 rfl (lv_room (Nat.le_of_ble_eq_true rfl)) dX13_close_53 ⟨(Nat.le_trans (Nat.le_of_ble_eq_true rfl) hRc), (Nat.le_trans (Nat.le_of_ble_eq_true rfl) hRs)⟩) hS (fun q _ h => hFc q h) hFc (fun r_680 M_681 t H_679 locs ht hvm hw hB hz1 hk1 hS => ?_)
        have hp_682 := hw
        obtain ⟨hP1, hK1, hD1⟩ := hB
        rw [ht] at hP1
        obtain ⟨hP, hD⟩ := va_joinQ (X := [(za, .inr (13, [.int 0, .ref z1, .int (nI z2), .int (nI z3), .int z4, .int z5, .ref z6, .ref z7, .ref z8, .ref z9, .int (nI z10), .ref z11, .ref z12, .ref z13, .ref z14, .ref z15, .int (nI z16), .ref z17, .int z18, .ref z19]))]) (cx := [(za, .inr (13, [.int 0, .ref z1, .int (nI z2), .int (nI z3), .int z4, .int z5, .ref z6, .ref z7, .ref z8, .ref z9, .int (nI z10), .ref z11, .ref z12, .ref z13, .ref z14, .ref z15, .int (nI z16), .ref z17, .int z18, .ref z19]))]) (wr := []) (w1 := [(za, .inr (13, [.int 0, .ref z1, .int (nI z2), .int (nI z3), .int 1, .int (-1), .ref z6, .ref z7, .ref z8, .ref z9, .int (nI z10), .ref z11, .ref z12, .ref z13, .ref z14, .ref z15, .int (nI z16), .ref z17, .int z18, .ref z19]))]) (pl := va_pl L M) hP hD [0] [] rfl rfl (by decide) (by decide) hk1 hFc hP1 hD1
        have hP : va_P D vwCl ([(za, .inr (13, [.int 0, .ref z1, .int (nI z2), .int (nI z3), .int 1, .int (-1), .ref z6, .ref z7, .ref z8, .ref z9, .int (nI z10), .ref z11, .ref z12, .ref z13, .ref z14, .ref z15, .int (nI z16), .ref z17, .int z18, .ref z19]))] ++ va_pl L M) H_679 := hP
        have hD : va_D A ([(za, .inr (13, [.int 0, .ref z1, .int (nI z2), .int (nI z3), .int 1, .int (-1), .ref z6, .ref z7, .ref z8, .ref z9, .int (nI z10), .ref z11, .ref z12, .ref z13, .ref z14, .ref z15, .int (nI z16), .ref z17, .int z18, .ref z19]))] ++ va_pl L M) := hD
        have hq := Eq.symm hp_682
        subst hq
        rw [hQ]
        exact W.iret (v := (-1)) hx hb hr (fun t ht hW9 => ⟨⟨(-1), M, rfl, ⟨hW, hF, hG, hGI, trivial⟩, ⟨1, (-1), z16, (by omega), by rw [ht]; exact hP, hD⟩⟩, hS.F ht⟩) hS.2.2 dX13_close_56
    · have hz := rfl (a := 0)
      have n_683 : v19 = v18 := (iEQ (a := v19) (b := v18) (by omega) (by omega)).mp c_22
      refine lv_aload_n hx hb dX13_close_37 rfl (lv_at hl 1 rfl) ?_
      refine lv_bipush (v := 6) hx hb dX13_close_38 (by decide) ?_
      have hPc := hP.sub (ws' := [(za, .inr (13, [.int 0, .ref z1, .int (nI z2), .int (nI z3), .int z4, .int z5, .ref z6, .ref z7, .ref z8, .ref z9, .int (nI z10), .ref z11, .ref z12, .ref z13, .ref z14, .ref z15, .int (nI z16), .ref z17, .int z18, .ref z19]))]) [0] rfl
      have hDc := hD.sub (ws' := [(za, .inr (13, [.int 0, .ref z1, .int (nI z2), .int (nI z3), .int z4, .int z5, .ref z6, .ref z7, .ref z8, .ref z9, .int (nI z10), .ref z11, .ref z12, .ref z13, .ref z14, .ref z15, .int (nI z16), .ref z17, .int z18, .ref z19]))]) [0] (by decide) rfl
      have hKc := hK.sub (tys' := []) [] rfl
      have hFc := va_free (wc := [(za, .inr (13, [.int 0, .ref z1, .int (nI z2), .int (nI z3), .int z4, .int z5, .ref z6, .ref z7, .ref z8, .ref z9, .int (nI z10), .ref z11, .ref z12, .ref z13, .ref z14, .ref z15, .int (nI z16), .ref z17, .int z18, .ref z19]))]) hD hS hA [0] rfl
      refine va_calli (va_runV (As := [.int 6]) (rest := []) ⟨hx, hb, hml, hown, hg⟩ (m_refused l D H_2.size za 0 z1 (nI z2) (nI z3) z4 z5 z6 z7 z8 z9 (nI z10) z11 z12 z13 z14 z15 (nI z16) z17 z18 z19 6) (cwV 1 hg (gV wd_725 wd_726 wd_727 wd_717 wd_728) rfl rfl rfl (by decide +kernel) ⟨(Nat.le_trans (Nat.le_of_ble_eq_true rfl) hRf), (Nat.le_trans (Nat.le_of_ble_eq_true rfl) hRl)⟩) ⟨Pr.blind, va_recv hK hP (ci := 13) (q0 := 0) rfl rfl, fun U hU hW => ⟨rfl, Pr.at hPc hKc hDc hN hU hW⟩⟩ rfl rfl hl.1 rfl (lv_room (Nat.le_of_ble_eq_true rfl)) dX13_close_40 ⟨(Nat.le_trans (Nat.le_of_ble_eq_true rfl) hRc), (Nat.le_trans (Nat.le_of_ble_eq_true rfl) hRs)⟩) hS (fun q _ h => hFc q h) hFc (fun r_685 M_686 t H_684 locs ht hvm hw hB hz1 hk1 hS => ?_)
      have hp_687 := hw
      obtain ⟨hP1, hK1, hD1⟩ := hB
      rw [ht] at hP1
      obtain ⟨hP, hD⟩ := va_joinQ (X := [(za, .inr (13, [.int 0, .ref z1, .int (nI z2), .int (nI z3), .int z4, .int z5, .ref z6, .ref z7, .ref z8, .ref z9, .int (nI z10), .ref z11, .ref z12, .ref z13, .ref z14, .ref z15, .int (nI z16), .ref z17, .int z18, .ref z19]))]) (cx := [(za, .inr (13, [.int 0, .ref z1, .int (nI z2), .int (nI z3), .int z4, .int z5, .ref z6, .ref z7, .ref z8, .ref z9, .int (nI z10), .ref z11, .ref z12, .ref z13, .ref z14, .ref z15, .int (nI z16), .ref z17, .int z18, .ref z19]))]) (wr := []) (w1 := [(za, .inr (13, [.int 0, .ref z1, .int (nI z2), .int (nI z3), .int 6, .int (-1), .ref z6, .ref z7, .ref z8, .ref z9, .int (nI z10), .ref z11, .ref z12, .ref z13, .ref z14, .ref z15, .int (nI z16), .ref z17, .int z18, .ref z19]))]) (pl := va_pl L M) hP hD [0] [] rfl rfl (by decide) (by decide) hk1 hFc hP1 hD1
      have hP : va_P D vwCl ([(za, .inr (13, [.int 0, .ref z1, .int (nI z2), .int (nI z3), .int 6, .int (-1), .ref z6, .ref z7, .ref z8, .ref z9, .int (nI z10), .ref z11, .ref z12, .ref z13, .ref z14, .ref z15, .int (nI z16), .ref z17, .int z18, .ref z19]))] ++ va_pl L M) H_684 := hP
      have hD : va_D A ([(za, .inr (13, [.int 0, .ref z1, .int (nI z2), .int (nI z3), .int 6, .int (-1), .ref z6, .ref z7, .ref z8, .ref z9, .int (nI z10), .ref z11, .ref z12, .ref z13, .ref z14, .ref z15, .int (nI z16), .ref z17, .int z18, .ref z19]))] ++ va_pl L M) := hD
      have hq := Eq.symm hp_687
      subst hq
      rw [hQ]
      exact W.iret (v := (-1)) hx hb hr (fun t ht hW9 => ⟨⟨(-1), M, rfl, ⟨hW, hF, hG, hGI, trivial⟩, ⟨6, (-1), z16, (by omega), by rw [ht]; exact hP, hD⟩⟩, hS.F ht⟩) hS.2.2 dX13_close_43
  · have hz := rfl (a := 0)
    refine lv_if_ne (tgt := 19) hx hb dX13_close_10 (by decide) (fun c_688 => absurd c_688 (by decide)) (fun _ => ?_)
    refine lv_aload_n hx hb dX13_close_13 rfl (lv_at hl 0 rfl) ?_
    refine lv_iconst (v := 1) hx hb dX13_close_14 (by decide) ?_
    have hPc := hP.sub (ws' := [(za, .inr (13, [.int 0, .ref z1, .int (nI z2), .int (nI z3), .int z4, .int z5, .ref z6, .ref z7, .ref z8, .ref z9, .int (nI z10), .ref z11, .ref z12, .ref z13, .ref z14, .ref z15, .int (nI z16), .ref z17, .int z18, .ref z19]))]) [0] rfl
    have hDc := hD.sub (ws' := [(za, .inr (13, [.int 0, .ref z1, .int (nI z2), .int (nI z3), .int z4, .int z5, .ref z6, .ref z7, .ref z8, .ref z9, .int (nI z10), .ref z11, .ref z12, .ref z13, .ref z14, .ref z15, .int (nI z16), .ref z17, .int z18, .ref z19]))]) [0] (by decide) rfl
    have hKc := hK.sub (tys' := []) [] rfl
    have hFc := va_free (wc := [(za, .inr (13, [.int 0, .ref z1, .int (nI z2), .int (nI z3), .int z4, .int z5, .ref z6, .ref z7, .ref z8, .ref z9, .int (nI z10), .ref z11, .ref z12, .ref z13, .ref z14, .ref z15, .int (nI z16), .ref z17, .int z18, .ref z19]))]) hD hS hA [0] rfl
    refine va_calli (va_runV (As := [.int 1]) (rest := []) ⟨hx, hb, hml, hown, hg⟩ (m_refused l D H_2.size za 0 z1 (nI z2) (nI z3) z4 z5 z6 z7 z8 z9 (nI z10) z11 z12 z13 z14 z15 (nI z16) z17 z18 z19 1) (cwV 1 hg (gV wd_725 wd_726 wd_727 wd_717 wd_728) rfl rfl rfl (by decide +kernel) ⟨(Nat.le_trans (Nat.le_of_ble_eq_true rfl) hRf), (Nat.le_trans (Nat.le_of_ble_eq_true rfl) hRl)⟩) ⟨Pr.blind, va_recv hK hP (ci := 13) (q0 := 0) rfl rfl, fun U hU hW => ⟨rfl, Pr.at hPc hKc hDc hN hU hW⟩⟩ rfl rfl hl.1 rfl (lv_room (Nat.le_of_ble_eq_true rfl)) dX13_close_15 ⟨(Nat.le_trans (Nat.le_of_ble_eq_true rfl) hRc), (Nat.le_trans (Nat.le_of_ble_eq_true rfl) hRs)⟩) hS (fun q _ h => hFc q h) hFc (fun r_690 M_691 t H_689 locs ht hvm hw hB hz1 hk1 hS => ?_)
    have hp_692 := hw
    obtain ⟨hP1, hK1, hD1⟩ := hB
    rw [ht] at hP1
    obtain ⟨hP, hD⟩ := va_joinQ (X := [(za, .inr (13, [.int 0, .ref z1, .int (nI z2), .int (nI z3), .int z4, .int z5, .ref z6, .ref z7, .ref z8, .ref z9, .int (nI z10), .ref z11, .ref z12, .ref z13, .ref z14, .ref z15, .int (nI z16), .ref z17, .int z18, .ref z19]))]) (cx := [(za, .inr (13, [.int 0, .ref z1, .int (nI z2), .int (nI z3), .int z4, .int z5, .ref z6, .ref z7, .ref z8, .ref z9, .int (nI z10), .ref z11, .ref z12, .ref z13, .ref z14, .ref z15, .int (nI z16), .ref z17, .int z18, .ref z19]))]) (wr := []) (w1 := [(za, .inr (13, [.int 0, .ref z1, .int (nI z2), .int (nI z3), .int 1, .int (-1), .ref z6, .ref z7, .ref z8, .ref z9, .int (nI z10), .ref z11, .ref z12, .ref z13, .ref z14, .ref z15, .int (nI z16), .ref z17, .int z18, .ref z19]))]) (pl := va_pl L M) hP hD [0] [] rfl rfl (by decide) (by decide) hk1 hFc hP1 hD1
    have hP : va_P D vwCl ([(za, .inr (13, [.int 0, .ref z1, .int (nI z2), .int (nI z3), .int 1, .int (-1), .ref z6, .ref z7, .ref z8, .ref z9, .int (nI z10), .ref z11, .ref z12, .ref z13, .ref z14, .ref z15, .int (nI z16), .ref z17, .int z18, .ref z19]))] ++ va_pl L M) H_689 := hP
    have hD : va_D A ([(za, .inr (13, [.int 0, .ref z1, .int (nI z2), .int (nI z3), .int 1, .int (-1), .ref z6, .ref z7, .ref z8, .ref z9, .int (nI z10), .ref z11, .ref z12, .ref z13, .ref z14, .ref z15, .int (nI z16), .ref z17, .int z18, .ref z19]))] ++ va_pl L M) := hD
    have hq := Eq.symm hp_692
    subst hq
    rw [hQ]
    exact W.iret (v := (-1)) hx hb hr (fun t ht hW9 => ⟨⟨(-1), M, rfl, ⟨hW, hF, hG, hGI, trivial⟩, ⟨1, (-1), z16, (by omega), by rw [ht]; exact hP, hD⟩⟩, hS.F ht⟩) hS.2.2 dX13_close_18
