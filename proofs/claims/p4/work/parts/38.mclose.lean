theorem dX13_close_0 : decode cX13_close 0 = .ok (.aload_n 0, 1) := by decide +kernel
theorem dX13_close_1 : decode cX13_close 1 = .ok (.iconst 0, 1) := by decide +kernel
theorem dX13_close_2 : decode cX13_close 2 = .ok (.putfield 55, 3) := by decide +kernel
theorem dX13_close_5 : decode cX13_close 5 = .ok (.aload_n 0, 1) := by decide +kernel
theorem dX13_close_6 : decode cX13_close 6 = .ok (.iload_n 1, 1) := by decide +kernel
theorem dX13_close_7 : decode cX13_close 7 = .ok (.invokevirtual 64, 3) := by decide +kernel
theorem dX13_close_10 : decode cX13_close 10 = .ok (.ifCond .ne 9, 3) := by decide +kernel
theorem dX13_close_13 : decode cX13_close 13 = .ok (.aload_n 0, 1) := by decide +kernel
theorem dX13_close_14 : decode cX13_close 14 = .ok (.iconst 1, 1) := by decide +kernel
theorem dX13_close_15 : decode cX13_close 15 = .ok (.invokevirtual 73, 3) := by decide +kernel
theorem dX13_close_18 : decode cX13_close 18 = .ok (.ireturn, 1) := by decide +kernel
theorem dX13_close_19 : decode cX13_close 19 = .ok (.aload_n 0, 1) := by decide +kernel
theorem dX13_close_20 : decode cX13_close 20 = .ok (.getfield 12, 3) := by decide +kernel
theorem dX13_close_23 : decode cX13_close 23 = .ok (.iload_n 1, 1) := by decide +kernel
theorem dX13_close_24 : decode cX13_close 24 = .ok (.aaload, 1) := by decide +kernel
theorem dX13_close_25 : decode cX13_close 25 = .ok (.astore_n 2, 1) := by decide +kernel
theorem dX13_close_26 : decode cX13_close 26 = .ok (.aload_n 2, 1) := by decide +kernel
theorem dX13_close_27 : decode cX13_close 27 = .ok (.getfield 244, 3) := by decide +kernel
theorem dX13_close_30 : decode cX13_close 30 = .ok (.aload_n 2, 1) := by decide +kernel
theorem dX13_close_31 : decode cX13_close 31 = .ok (.getfield 233, 3) := by decide +kernel
theorem dX13_close_34 : decode cX13_close 34 = .ok (.if_icmp .ne 10, 3) := by decide +kernel
theorem dX13_close_37 : decode cX13_close 37 = .ok (.aload_n 0, 1) := by decide +kernel
theorem dX13_close_38 : decode cX13_close 38 = .ok (.bipush 6, 2) := by decide +kernel
theorem dX13_close_40 : decode cX13_close 40 = .ok (.invokevirtual 73, 3) := by decide +kernel
theorem dX13_close_43 : decode cX13_close 43 = .ok (.ireturn, 1) := by decide +kernel
theorem dX13_close_44 : decode cX13_close 44 = .ok (.aload_n 2, 1) := by decide +kernel
theorem dX13_close_45 : decode cX13_close 45 = .ok (.getfield 142, 3) := by decide +kernel
theorem dX13_close_48 : decode cX13_close 48 = .ok (.ifCond .ne 9, 3) := by decide +kernel
theorem dX13_close_51 : decode cX13_close 51 = .ok (.aload_n 0, 1) := by decide +kernel
theorem dX13_close_52 : decode cX13_close 52 = .ok (.iconst 1, 1) := by decide +kernel
theorem dX13_close_53 : decode cX13_close 53 = .ok (.invokevirtual 73, 3) := by decide +kernel
theorem dX13_close_56 : decode cX13_close 56 = .ok (.ireturn, 1) := by decide +kernel
theorem dX13_close_57 : decode cX13_close 57 = .ok (.aload_n 2, 1) := by decide +kernel
theorem dX13_close_58 : decode cX13_close 58 = .ok (.getfield 80, 3) := by decide +kernel
theorem dX13_close_61 : decode cX13_close 61 = .ok (.iconst 1, 1) := by decide +kernel
theorem dX13_close_62 : decode cX13_close 62 = .ok (.iadd, 1) := by decide +kernel
theorem dX13_close_63 : decode cX13_close 63 = .ok (.istore_n 3, 1) := by decide +kernel
theorem dX13_close_64 : decode cX13_close 64 = .ok (.aload_n 2, 1) := by decide +kernel
theorem dX13_close_65 : decode cX13_close 65 = .ok (.getfield 236, 3) := by decide +kernel
theorem dX13_close_68 : decode cX13_close 68 = .ok (.aload_n 2, 1) := by decide +kernel
theorem dX13_close_69 : decode cX13_close 69 = .ok (.getfield 244, 3) := by decide +kernel
theorem dX13_close_72 : decode cX13_close 72 = .ok (.iaload, 1) := by decide +kernel
theorem dX13_close_73 : decode cX13_close 73 = .ok (.istore 4, 2) := by decide +kernel
theorem dX13_close_75 : decode cX13_close 75 = .ok (.iload_n 3, 1) := by decide +kernel
theorem dX13_close_76 : decode cX13_close 76 = .ok (.istore 5, 2) := by decide +kernel
theorem dX13_close_78 : decode cX13_close 78 = .ok (.iload 5, 2) := by decide +kernel
theorem dX13_close_80 : decode cX13_close 80 = .ok (.iload 4, 2) := by decide +kernel
theorem dX13_close_82 : decode cX13_close 82 = .ok (.if_icmp .gt 26, 3) := by decide +kernel
theorem dX13_close_85 : decode cX13_close 85 = .ok (.aload_n 2, 1) := by decide +kernel
theorem dX13_close_86 : decode cX13_close 86 = .ok (.iload 5, 2) := by decide +kernel
theorem dX13_close_88 : decode cX13_close 88 = .ok (.invokevirtual 247, 3) := by decide +kernel
theorem dX13_close_91 : decode cX13_close 91 = .ok (.ifCond .eq 11, 3) := by decide +kernel
theorem dX13_close_94 : decode cX13_close 94 = .ok (.aload_n 0, 1) := by decide +kernel
theorem dX13_close_95 : decode cX13_close 95 = .ok (.iconst 5, 1) := by decide +kernel
theorem dX13_close_96 : decode cX13_close 96 = .ok (.iload 5, 2) := by decide +kernel
theorem dX13_close_98 : decode cX13_close 98 = .ok (.invokevirtual 250, 3) := by decide +kernel
theorem dX13_close_101 : decode cX13_close 101 = .ok (.ireturn, 1) := by decide +kernel
theorem dX13_close_102 : decode cX13_close 102 = .ok (.iinc 5 1, 3) := by decide +kernel
theorem dX13_close_105 : decode cX13_close 105 = .ok (.goto (-27), 3) := by decide +kernel
theorem dX13_close_108 : decode cX13_close 108 = .ok (.aload_n 0, 1) := by decide +kernel
theorem dX13_close_109 : decode cX13_close 109 = .ok (.iload_n 1, 1) := by decide +kernel
theorem dX13_close_110 : decode cX13_close 110 = .ok (.iload 4, 2) := by decide +kernel
theorem dX13_close_112 : decode cX13_close 112 = .ok (.invokevirtual 253, 3) := by decide +kernel
theorem dX13_close_115 : decode cX13_close 115 = .ok (.istore 5, 2) := by decide +kernel
theorem dX13_close_117 : decode cX13_close 117 = .ok (.iload 5, 2) := by decide +kernel
theorem dX13_close_119 : decode cX13_close 119 = .ok (.iconst (-1), 1) := by decide +kernel
theorem dX13_close_120 : decode cX13_close 120 = .ok (.if_icmp .eq 12, 3) := by decide +kernel
theorem dX13_close_123 : decode cX13_close 123 = .ok (.aload_n 0, 1) := by decide +kernel
theorem dX13_close_124 : decode cX13_close 124 = .ok (.bipush 7, 2) := by decide +kernel
theorem dX13_close_126 : decode cX13_close 126 = .ok (.iload 5, 2) := by decide +kernel
theorem dX13_close_128 : decode cX13_close 128 = .ok (.invokevirtual 250, 3) := by decide +kernel
theorem dX13_close_131 : decode cX13_close 131 = .ok (.ireturn, 1) := by decide +kernel
theorem dX13_close_132 : decode cX13_close 132 = .ok (.aload_n 2, 1) := by decide +kernel
theorem dX13_close_133 : decode cX13_close 133 = .ok (.iconst 0, 1) := by decide +kernel
theorem dX13_close_134 : decode cX13_close 134 = .ok (.putfield 256, 3) := by decide +kernel
theorem dX13_close_137 : decode cX13_close 137 = .ok (.iconst 0, 1) := by decide +kernel
theorem dX13_close_138 : decode cX13_close 138 = .ok (.istore 6, 2) := by decide +kernel
theorem dX13_close_140 : decode cX13_close 140 = .ok (.iload 6, 2) := by decide +kernel
theorem dX13_close_142 : decode cX13_close 142 = .ok (.bipush 24, 2) := by decide +kernel
theorem dX13_close_144 : decode cX13_close 144 = .ok (.if_icmp .ge 17, 3) := by decide +kernel
theorem dX13_close_147 : decode cX13_close 147 = .ok (.aload_n 2, 1) := by decide +kernel
theorem dX13_close_148 : decode cX13_close 148 = .ok (.getfield 259, 3) := by decide +kernel
theorem dX13_close_151 : decode cX13_close 151 = .ok (.iload 6, 2) := by decide +kernel
theorem dX13_close_153 : decode cX13_close 153 = .ok (.lconst 0, 1) := by decide +kernel
theorem dX13_close_154 : decode cX13_close 154 = .ok (.lastore, 1) := by decide +kernel
theorem dX13_close_155 : decode cX13_close 155 = .ok (.iinc 6 1, 3) := by decide +kernel
theorem dX13_close_158 : decode cX13_close 158 = .ok (.goto (-18), 3) := by decide +kernel
theorem dX13_close_161 : decode cX13_close 161 = .ok (.iload_n 3, 1) := by decide +kernel
theorem dX13_close_162 : decode cX13_close 162 = .ok (.istore 6, 2) := by decide +kernel
theorem dX13_close_164 : decode cX13_close 164 = .ok (.iload 6, 2) := by decide +kernel
theorem dX13_close_166 : decode cX13_close 166 = .ok (.iload 4, 2) := by decide +kernel
theorem dX13_close_168 : decode cX13_close 168 = .ok (.if_icmp .gt 70, 3) := by decide +kernel
theorem dX13_close_171 : decode cX13_close 171 = .ok (.iload 6, 2) := by decide +kernel
theorem dX13_close_173 : decode cX13_close 173 = .ok (.iload_n 3, 1) := by decide +kernel
theorem dX13_close_174 : decode cX13_close 174 = .ok (.if_icmp .eq 12, 3) := by decide +kernel
theorem dX13_close_177 : decode cX13_close 177 = .ok (.aload_n 2, 1) := by decide +kernel
theorem dX13_close_178 : decode cX13_close 178 = .ok (.iload 6, 2) := by decide +kernel
theorem dX13_close_180 : decode cX13_close 180 = .ok (.invokestatic 262, 3) := by decide +kernel
theorem dX13_close_183 : decode cX13_close 183 = .ok (.ifCond .eq 34, 3) := by decide +kernel
theorem dX13_close_186 : decode cX13_close 186 = .ok (.aload_n 2, 1) := by decide +kernel
theorem dX13_close_187 : decode cX13_close 187 = .ok (.getfield 265, 3) := by decide +kernel
theorem dX13_close_190 : decode cX13_close 190 = .ok (.aload_n 2, 1) := by decide +kernel
theorem dX13_close_191 : decode cX13_close 191 = .ok (.getfield 256, 3) := by decide +kernel
theorem dX13_close_194 : decode cX13_close 194 = .ok (.iload 6, 2) := by decide +kernel
theorem dX13_close_196 : decode cX13_close 196 = .ok (.iastore, 1) := by decide +kernel
theorem dX13_close_197 : decode cX13_close 197 = .ok (.aload_n 2, 1) := by decide +kernel
theorem dX13_close_198 : decode cX13_close 198 = .ok (.getfield 268, 3) := by decide +kernel
theorem dX13_close_201 : decode cX13_close 201 = .ok (.aload_n 2, 1) := by decide +kernel
theorem dX13_close_202 : decode cX13_close 202 = .ok (.getfield 256, 3) := by decide +kernel
theorem dX13_close_205 : decode cX13_close 205 = .ok (.iconst 0, 1) := by decide +kernel
theorem dX13_close_206 : decode cX13_close 206 = .ok (.iastore, 1) := by decide +kernel
theorem dX13_close_207 : decode cX13_close 207 = .ok (.aload_n 2, 1) := by decide +kernel
theorem dX13_close_208 : decode cX13_close 208 = .ok (.dup, 1) := by decide +kernel
theorem dX13_close_209 : decode cX13_close 209 = .ok (.getfield 256, 3) := by decide +kernel
theorem dX13_close_212 : decode cX13_close 212 = .ok (.iconst 1, 1) := by decide +kernel
theorem dX13_close_213 : decode cX13_close 213 = .ok (.iadd, 1) := by decide +kernel
theorem dX13_close_214 : decode cX13_close 214 = .ok (.putfield 256, 3) := by decide +kernel
theorem dX13_close_217 : decode cX13_close 217 = .ok (.aload_n 2, 1) := by decide +kernel
theorem dX13_close_218 : decode cX13_close 218 = .ok (.getfield 268, 3) := by decide +kernel
theorem dX13_close_221 : decode cX13_close 221 = .ok (.aload_n 2, 1) := by decide +kernel
theorem dX13_close_222 : decode cX13_close 222 = .ok (.getfield 256, 3) := by decide +kernel
theorem dX13_close_225 : decode cX13_close 225 = .ok (.iconst 1, 1) := by decide +kernel
theorem dX13_close_226 : decode cX13_close 226 = .ok (.isub, 1) := by decide +kernel
theorem dX13_close_227 : decode cX13_close 227 = .ok (.dup2, 1) := by decide +kernel
theorem dX13_close_228 : decode cX13_close 228 = .ok (.iaload, 1) := by decide +kernel
theorem dX13_close_229 : decode cX13_close 229 = .ok (.iconst 1, 1) := by decide +kernel
theorem dX13_close_230 : decode cX13_close 230 = .ok (.iadd, 1) := by decide +kernel
theorem dX13_close_231 : decode cX13_close 231 = .ok (.iastore, 1) := by decide +kernel
theorem dX13_close_232 : decode cX13_close 232 = .ok (.iinc 6 1, 3) := by decide +kernel
theorem dX13_close_235 : decode cX13_close 235 = .ok (.goto (-71), 3) := by decide +kernel
theorem dX13_close_238 : decode cX13_close 238 = .ok (.aload_n 2, 1) := by decide +kernel
theorem dX13_close_239 : decode cX13_close 239 = .ok (.getfield 256, 3) := by decide +kernel
theorem dX13_close_242 : decode cX13_close 242 = .ok (.istore 6, 2) := by decide +kernel
theorem dX13_close_244 : decode cX13_close 244 = .ok (.aload_n 0, 1) := by decide +kernel
theorem dX13_close_245 : decode cX13_close 245 = .ok (.aload_n 2, 1) := by decide +kernel
theorem dX13_close_246 : decode cX13_close 246 = .ok (.iload 6, 2) := by decide +kernel
theorem dX13_close_248 : decode cX13_close 248 = .ok (.invokevirtual 271, 3) := by decide +kernel
theorem dX13_close_251 : decode cX13_close 251 = .ok (.iconst 0, 1) := by decide +kernel
theorem dX13_close_252 : decode cX13_close 252 = .ok (.istore 7, 2) := by decide +kernel
theorem dX13_close_254 : decode cX13_close 254 = .ok (.iload 7, 2) := by decide +kernel
theorem dX13_close_256 : decode cX13_close 256 = .ok (.iload 6, 2) := by decide +kernel
theorem dX13_close_258 : decode cX13_close 258 = .ok (.if_icmp .ge 17, 3) := by decide +kernel
theorem dX13_close_261 : decode cX13_close 261 = .ok (.aload_n 0, 1) := by decide +kernel
theorem dX13_close_262 : decode cX13_close 262 = .ok (.aload_n 2, 1) := by decide +kernel
theorem dX13_close_263 : decode cX13_close 263 = .ok (.iload 7, 2) := by decide +kernel
theorem dX13_close_265 : decode cX13_close 265 = .ok (.iload_n 3, 1) := by decide +kernel
theorem dX13_close_266 : decode cX13_close 266 = .ok (.invokevirtual 275, 3) := by decide +kernel
theorem dX13_close_269 : decode cX13_close 269 = .ok (.iinc 7 1, 3) := by decide +kernel
theorem dX13_close_272 : decode cX13_close 272 = .ok (.goto (-18), 3) := by decide +kernel
theorem dX13_close_275 : decode cX13_close 275 = .ok (.iconst 0, 1) := by decide +kernel
theorem dX13_close_276 : decode cX13_close 276 = .ok (.istore 7, 2) := by decide +kernel
theorem dX13_close_278 : decode cX13_close 278 = .ok (.iload 7, 2) := by decide +kernel
theorem dX13_close_280 : decode cX13_close 280 = .ok (.aload_n 2, 1) := by decide +kernel
theorem dX13_close_281 : decode cX13_close 281 = .ok (.getfield 279, 3) := by decide +kernel
theorem dX13_close_284 : decode cX13_close 284 = .ok (.if_icmp .ge 16, 3) := by decide +kernel
theorem dX13_close_287 : decode cX13_close 287 = .ok (.aload_n 0, 1) := by decide +kernel
theorem dX13_close_288 : decode cX13_close 288 = .ok (.aload_n 2, 1) := by decide +kernel
theorem dX13_close_289 : decode cX13_close 289 = .ok (.iload 7, 2) := by decide +kernel
theorem dX13_close_291 : decode cX13_close 291 = .ok (.invokevirtual 282, 3) := by decide +kernel
theorem dX13_close_294 : decode cX13_close 294 = .ok (.iinc 7 1, 3) := by decide +kernel
theorem dX13_close_297 : decode cX13_close 297 = .ok (.goto (-19), 3) := by decide +kernel
theorem dX13_close_300 : decode cX13_close 300 = .ok (.aload_n 2, 1) := by decide +kernel
theorem dX13_close_301 : decode cX13_close 301 = .ok (.iload_n 3, 1) := by decide +kernel
theorem dX13_close_302 : decode cX13_close 302 = .ok (.iload 4, 2) := by decide +kernel
theorem dX13_close_304 : decode cX13_close 304 = .ok (.invokestatic 285, 3) := by decide +kernel
theorem dX13_close_307 : decode cX13_close 307 = .ok (.aload_n 2, 1) := by decide +kernel
theorem dX13_close_308 : decode cX13_close 308 = .ok (.lconst 0, 1) := by decide +kernel
theorem dX13_close_309 : decode cX13_close 309 = .ok (.putfield 179, 3) := by decide +kernel
theorem dX13_close_312 : decode cX13_close 312 = .ok (.aload_n 2, 1) := by decide +kernel
theorem dX13_close_313 : decode cX13_close 313 = .ok (.iconst 0, 1) := by decide +kernel
theorem dX13_close_314 : decode cX13_close 314 = .ok (.putfield 279, 3) := by decide +kernel
theorem dX13_close_317 : decode cX13_close 317 = .ok (.aload_n 2, 1) := by decide +kernel
theorem dX13_close_318 : decode cX13_close 318 = .ok (.iconst 0, 1) := by decide +kernel
theorem dX13_close_319 : decode cX13_close 319 = .ok (.putfield 161, 3) := by decide +kernel
theorem dX13_close_322 : decode cX13_close 322 = .ok (.aload_n 2, 1) := by decide +kernel
theorem dX13_close_323 : decode cX13_close 323 = .ok (.iload 4, 2) := by decide +kernel
theorem dX13_close_325 : decode cX13_close 325 = .ok (.putfield 80, 3) := by decide +kernel
theorem dX13_close_328 : decode cX13_close 328 = .ok (.aload_n 2, 1) := by decide +kernel
theorem dX13_close_329 : decode cX13_close 329 = .ok (.dup, 1) := by decide +kernel
theorem dX13_close_330 : decode cX13_close 330 = .ok (.getfield 244, 3) := by decide +kernel
theorem dX13_close_333 : decode cX13_close 333 = .ok (.iconst 1, 1) := by decide +kernel
theorem dX13_close_334 : decode cX13_close 334 = .ok (.iadd, 1) := by decide +kernel
theorem dX13_close_335 : decode cX13_close 335 = .ok (.putfield 244, 3) := by decide +kernel
theorem dX13_close_338 : decode cX13_close 338 = .ok (.aload_n 2, 1) := by decide +kernel
theorem dX13_close_339 : decode cX13_close 339 = .ok (.iconst 1, 1) := by decide +kernel
theorem dX13_close_340 : decode cX13_close 340 = .ok (.putfield 288, 3) := by decide +kernel
theorem dX13_close_343 : decode cX13_close 343 = .ok (.aload_n 0, 1) := by decide +kernel
theorem dX13_close_344 : decode cX13_close 344 = .ok (.aload_n 2, 1) := by decide +kernel
theorem dX13_close_345 : decode cX13_close 345 = .ok (.iload 4, 2) := by decide +kernel
theorem dX13_close_347 : decode cX13_close 347 = .ok (.invokevirtual 292, 3) := by decide +kernel
theorem dX13_close_350 : decode cX13_close 350 = .ok (.aload_n 2, 1) := by decide +kernel
theorem dX13_close_351 : decode cX13_close 351 = .ok (.iload 4, 2) := by decide +kernel
theorem dX13_close_353 : decode cX13_close 353 = .ok (.invokestatic 295, 3) := by decide +kernel
theorem dX13_close_356 : decode cX13_close 356 = .ok (.aload_n 0, 1) := by decide +kernel
theorem dX13_close_357 : decode cX13_close 357 = .ok (.aload_n 2, 1) := by decide +kernel
theorem dX13_close_358 : decode cX13_close 358 = .ok (.getfield 244, 3) := by decide +kernel
theorem dX13_close_361 : decode cX13_close 361 = .ok (.iconst 1, 1) := by decide +kernel
theorem dX13_close_362 : decode cX13_close 362 = .ok (.isub, 1) := by decide +kernel
theorem dX13_close_363 : decode cX13_close 363 = .ok (.invokevirtual 86, 3) := by decide +kernel
theorem dX13_close_366 : decode cX13_close 366 = .ok (.ireturn, 1) := by decide +kernel
theorem wd_853 : Cond.methodLink RX13 253 yX13_behind ∈ lw_good := mem_t7 39 (by decide +kernel) rfl
theorem wd_854 : Cond.instanceMethod yX13_behind ∈ lw_good := mem_t7 41 (by decide +kernel) rfl
theorem wd_855 : Cond.selects RX13 yX13_behind yX13_behind ∈ lw_good := mem_p 37 (by decide +kernel) rfl
theorem wd_856 : Cond.code yX13_behind cX13_behind 7 (some .int) ∈ lw_good := mem_t7 42 rfl rfl
theorem wd_857 : Cond.methodLink RX13 271 yX13_looses ∈ lw_good := mem_t7 51 (by decide +kernel) rfl
theorem wd_858 : Cond.instanceMethod yX13_looses ∈ lw_good := mem_t7 53 (by decide +kernel) rfl
theorem wd_859 : Cond.selects RX13 yX13_looses yX13_looses ∈ lw_good := mem_p 38 (by decide +kernel) rfl
theorem wd_860 : Cond.code yX13_looses cX13_looses 12 none ∈ lw_good := mem_t7 54 rfl rfl
theorem wd_861 : Cond.methodLink RX13 285 yX13_settled ∈ lw_good := mem_t7 113 (by decide +kernel) rfl
theorem wd_862 : Cond.static yX13_settled ∈ lw_good := mem_t7 114 (by decide +kernel) rfl
theorem wd_863 : Cond.code yX13_settled cX13_settled 5 none ∈ lw_good := mem_t7 115 rfl rfl
theorem wd_864 : Cond.methodLink RX13 292 yX13_incomes ∈ lw_good := mem_t7 116 (by decide +kernel) rfl
theorem wd_865 : Cond.instanceMethod yX13_incomes ∈ lw_good := mem_t7 118 (by decide +kernel) rfl
theorem wd_866 : Cond.selects RX13 yX13_incomes yX13_incomes ∈ lw_good := mem_p 50 (by decide +kernel) rfl
theorem wd_867 : Cond.code yX13_incomes cX13_incomes 6 none ∈ lw_good := mem_t7 119 rfl rfl
theorem wd_868 : Cond.methodLink RX13 295 yX13_ends ∈ lw_good := mem_t7 121 (by decide +kernel) rfl
theorem wd_869 : Cond.static yX13_ends ∈ lw_good := mem_t7 122 (by decide +kernel) rfl
theorem wd_870 : Cond.code yX13_ends cX13_ends 5 none ∈ lw_good := mem_t7 123 rfl rfl
theorem wd_871 : Cond.methodLink RX13 282 yX13_mended ∈ lw_good := mem_t7 109 (by decide +kernel) rfl
theorem wd_872 : Cond.instanceMethod yX13_mended ∈ lw_good := mem_t7 111 (by decide +kernel) rfl
theorem wd_873 : Cond.selects RX13 yX13_mended yX13_mended ∈ lw_good := mem_p 49 (by decide +kernel) rfl
theorem wd_874 : Cond.code yX13_mended cX13_mended 4 none ∈ lw_good := mem_t7 112 rfl rfl
theorem wd_875 : Cond.methodLink RX13 275 yX13_stretch ∈ lw_good := mem_t7 56 (by decide +kernel) rfl
theorem wd_876 : Cond.instanceMethod yX13_stretch ∈ lw_good := mem_t7 58 (by decide +kernel) rfl
theorem wd_877 : Cond.selects RX13 yX13_stretch yX13_stretch ∈ lw_good := mem_p 39 (by decide +kernel) rfl
theorem wd_878 : Cond.code yX13_stretch cX13_stretch 13 none ∈ lw_good := mem_t7 59 rfl rfl
theorem wd_879 : Cond.methodLink RX13 262 yX13_isParted ∈ lw_good := mem_t7 44 (by decide +kernel) rfl
theorem wd_880 : Cond.static yX13_isParted ∈ lw_good := mem_t7 45 (by decide +kernel) rfl
theorem wd_881 : Cond.code yX13_isParted cX13_isParted 4 (some .boolean) ∈ lw_good := mem_t7 46 rfl rfl
theorem wd_882 : Cond.methodLink RX13 250 yX13_refusedAt ∈ lw_good := mem_t7 35 (by decide +kernel) rfl
theorem wd_883 : Cond.instanceMethod yX13_refusedAt ∈ lw_good := mem_t7 37 (by decide +kernel) rfl
theorem wd_884 : Cond.selects RX13 yX13_refusedAt yX13_refusedAt ∈ lw_good := mem_p 36 (by decide +kernel) rfl
theorem wd_885 : Cond.code yX13_refusedAt cX13_refusedAt 3 (some .int) ∈ lw_good := mem_t7 38 rfl rfl
theorem pv_ge {first to years closed : Int} {e : Nat → Int32} (h : HE first to years closed e) (hy : years ≤ 12) : ∀ k : Nat, (k : Int) ≤ years → first - 1 ≤ pv first e k := by
  intro k
  induction k with
  | zero => intro _; exact Int.le_refl _
  | succ k ih =>
    intro hk
    have h1 := ih (by omega)
    have h2 := (h.2.2 k (by omega) (by omega)).1
    show first - 1 ≤ (e k).toInt
    omega
theorem heC {first to years closed : Int} {e f37 : Nat → Int32} {v13 v12 n k : Nat} (h : HE first to years closed e) (hc : closed = (v13 : Int)) (hy : years = (v12 : Int)) (hne : ¬ v13 = v12) (h12 : v12 ≤ 12) (e37 : e = f37) (hk : k = v13) (ec : f37 k = nI n) (hn : n < 1000) : v13 < v12 ∧ to + 1 ≤ (n : Int) ∧ (n : Int) ≤ to + 100 ∧ first ≤ to + 1 := by
  have h0 := h.1
  have hlt : v13 < v12 := by omega
  have h2 := h.2.2 v13 (by omega) (by omega)
  have h3 : to = pv first e v13 := by
    have := h.2.1
    rw [hc, show ((v13 : Int)).toNat = v13 from by omega] at this
    exact this
  have h4 := pv_ge h (by omega) v13 (by omega)
  have h5 : (e v13).toInt = (n : Int) := by
    rw [e37, ← hk, ec, nI_toInt (by omega)]
  omega
/-- the stretches that close() has laid up to day d -/
def SD (F n d : Nat) (g h : Nat → Int32) : Prop := F ≤ d ∧ n ≤ d - F ∧ (d = F ∨ (1 ≤ n ∧ 1 ≤ (h 0).toInt)) ∧ ∀ i : Nat, i < n → (F : Int) ≤ (g i).toInt ∧ 0 ≤ (h i).toInt ∧ (g i).toInt + (h i).toInt ≤ (d : Int)
theorem SD.rf (F : Nat) (g h : Nat → Int32) : SD F 0 F g h := ⟨Nat.le_refl _, Nat.zero_le _, Or.inl rfl, fun i hi => absurd hi (Nat.not_lt_zero _)⟩
theorem SD.new {F n d k k2 c : Nat} {g h : Nat → Int32} (s : SD F n d g h) (hd : d < 1000) (hk : k = n) (hk2 : k2 = n) (hc : c = 0) : SD F (n + 1) (d + 1) (upd g k (nI d)) (upd (upd h k 0) k2 (nI (c + 1))) := by
  obtain ⟨s1, s2, s3, s4⟩ := s
  subst hk
  subst hk2
  subst hc
  refine ⟨by omega, by omega, Or.inr ⟨by omega, ?_⟩, fun i hi => ?_⟩
  · by_cases z : 0 = k2
    · rw [← z, upd_self]
      decide
    · rw [upd_ne _ _ z, upd_ne _ _ z]
      rcases s3 with q | q
      · omega
      · exact q.2
  · by_cases z : i = k2
    · rw [z, upd_self, upd_self, nI_toInt (by omega), nI_toInt (by omega)]
      omega
    · rw [upd_ne _ _ z, upd_ne _ _ z, upd_ne _ _ z]
      have := s4 i (by omega)
      omega
theorem SD.old {F n d k c : Nat} {g h : Nat → Int32} (s : SD F n d g h) (hn : 1 ≤ n) (hk : k = n - 1) (hc : h k = nI c) (hc2 : c < 1001) : SD F n (d + 1) g (upd h k (nI (c + 1))) := by
  obtain ⟨s1, s2, s3, s4⟩ := s
  refine ⟨by omega, by omega, Or.inr ⟨hn, ?_⟩, fun i hi => ?_⟩
  · by_cases z : 0 = k
    · rw [← z, upd_self, nI_toInt (by omega)]
      omega
    · rw [upd_ne _ _ z]
      rcases s3 with q | q
      · omega
      · exact q.2
  · by_cases z : i = k
    · rw [z, upd_self, nI_toInt (by omega)]
      have := s4 k (by omega)
      rw [hc, nI_toInt (by omega)] at this
      omega
    · rw [upd_ne _ _ z]
      have := s4 i hi
      omega
theorem SD.c {F n d k c : Nat} {g h : Nat → Int32} (s : SD F n d g h) (hn : 1 ≤ n) (hk : k = n - 1) (hc : h k = nI c) (hc2 : c < 1001) : c ≤ d := by
  have := s.2.2.2 k (by omega)
  rw [hc, nI_toInt (by omega)] at this
  omega
theorem updz {g : Nat → Int32} {k k2 n c : Nat} (hk : k = n) (hk2 : k2 = n) (e : upd g k 0 k2 = nI c) (hc : c < 1001) : c = 0 := by
  subst hk
  subst hk2
  rw [upd_self] at e
  exact ((iEQ (a := 0) (b := c) (by omega) (by omega)).mp e).symm
theorem va_up_4 {α : Type} (y : Nat → α) (k l : Nat) (p q a c : α) : va_up (va_up (va_up (va_up y k p) l q) k a) l c = va_up (va_up y k a) l c := by
  funext j
  by_cases h : j = l
  · subst h
    rw [va_up_self, va_up_self]
  · rw [va_up_ne _ _ h, va_up_ne _ _ h]
    by_cases h2 : j = k
    · subst h2
      rw [va_up_self, va_up_self]
    · rw [va_up_ne _ _ h2, va_up_ne _ _ h2, va_up_ne _ _ h, va_up_ne _ _ h2]
set_option maxHeartbeats 4000000 in
set_option maxRecDepth 100000 in
theorem g_X13_close (l : Launch) (D : va_G) (cy : Nat → ClassId) (K : Kp) (L : List Nat) (M : Hp) (sz : Nat) (za : Nat) (z0 : Int32) (z1 : Nat) (z2 : Nat) (z3 : Nat) (z4 : Int32) (z5 : Int32) (z6 : Nat) (z7 : Nat) (z8 : Nat) (z9 : Nat) (z10 : Nat) (z11 : Nat) (z12 : Nat) (z13 : Nat) (z14 : Nat) (z15 : Nat) (z16 : Nat) (z17 : Nat) (z18 : Int32) (z19 : Nat) (k1 : Int32) (hW : WOM cy K L M) (i1 : isk K L z1 23 8) (b2 : z2 ≤ 8) (b3 : z3 ≤ 40) (i6 : isk K L z6 47 40) (i7 : isk K L z7 48 40) (i8 : isk K L z8 49 8) (i9 : isk K L z9 50 8) (b10 : z10 ≤ 8) (i11 : isk K L z11 32 24) (i12 : isk K L z12 14 24) (i13 : isk K L z13 15 24) (i14 : isk K L z14 15 24) (i15 : isk K L z15 15 24) (b16 : z16 ≤ 24) (i17 : isk K L z17 14 24) (i19 : isk K L z19 15 25) (hGI : GI K L z1 z2 M) (hR5 : R5 z6 z7 M) : Met l yX13_close (wsM yX13_close cX13_close 8 (some .int)) ({ frames := 6, cells := 0, slots := 0, locals := 165 }) (va_Pc [.ref za, .int k1] (PG D cy [(za, .inr (13, [.int z0, .ref z1, .int (nI z2), .int (nI z3), .int z4, .int z5, .ref z6, .ref z7, .ref z8, .ref z9, .int (nI z10), .ref z11, .ref z12, .ref z13, .ref z14, .ref z15, .int (nI z16), .ref z17, .int z18, .ref z19]))] L M sz)) (va_Qi (fun (r : Int32) (M9 : Hp) => WOM cy K L M9 ∧ fr K L [12, 14, 15, 32, 42, 45, 46, 79, 80, 81, 83] M M9 ∧ fG K L [1, 7, 8, 13, 14, 15, 16, 17, 18] M M9 ∧ (GI K L z1 z2 M9) ∧ (True)) (fun M9 t => ∃ (w4 : Int32) (w5 : Int32) (w16 : Nat), w16 ≤ 24 ∧ PQ D [(za, .inr (13, [.int 0, .ref z1, .int (nI z2), .int (nI z3), .int w4, .int w5, .ref z6, .ref z7, .ref z8, .ref z9, .int (nI z10), .ref z11, .ref z12, .ref z13, .ref z14, .ref z15, .int (nI w16), .ref z17, .int z18, .ref z19]))] L M9 (va_A ([(za, .inr (13, [.int z0, .ref z1, .int (nI z2), .int (nI z3), .int z4, .int z5, .ref z6, .ref z7, .ref z8, .ref z9, .int (nI z10), .ref z11, .ref z12, .ref z13, .ref z14, .ref z15, .int (nI z16), .ref z17, .int z18, .ref z19]))] ++ va_pl L M) sz) t) (va_A ([(za, .inr (13, [.int z0, .ref z1, .int (nI z2), .int (nI z3), .int z4, .int z5, .ref z6, .ref z7, .ref z8, .ref z9, .int (nI z10), .ref z11, .ref z12, .ref z13, .ref z14, .ref z15, .int (nI z16), .ref z17, .int z18, .ref z19]))] ++ va_pl L M) sz)) 0 0 (va_A ([(za, .inr (13, [.int z0, .ref z1, .int (nI z2), .int (nI z3), .int z4, .int z5, .ref z6, .ref z7, .ref z8, .ref z9, .int (nI z10), .ref z11, .ref z12, .ref z13, .ref z14, .ref z15, .int (nI z16), .ref z17, .int z18, .ref z19]))] ++ va_pl L M) sz) := by
  refine Met.ofW (cc := cX13_close) (maxL := 8) (ret := (some .int)) (by decide) rfl ?_
  intro p e s m args below meth c s₁ B hml hv
  obtain ⟨rfl, hsz, hP, hK, hD0, hN⟩ := hv
  have hx := B.exec
  have hb := B.bytes
  have hr := B.returns
  have hts := atoms_spec (ws := (wsM yX13_close cX13_close 8 (some .int))) B.pre
  have hg : ∀ w ∈ lw_good, w.before _ s = true := fun w h => hts w (List.mem_cons_of_mem _ h)
  have hown : s.vm.findClass RX13 = some m.cls := findClass_of_methodNamed B.named
  have hlocks := B.notSynchronized
  subst hsz
  have hD := hD0.self (sz := s.heap.size)
  generalize hAe : va_A ([(za, .inr (13, [.int z0, .ref z1, .int (nI z2), .int (nI z3), .int z4, .int z5, .ref z6, .ref z7, .ref z8, .ref z9, .int (nI z10), .ref z11, .ref z12, .ref z13, .ref z14, .ref z15, .int (nI z16), .ref z17, .int z18, .ref z19]))] ++ va_pl L M) s.heap.size = A at hD ⊢
  have hA : ∀ q : Nat, s.heap.size ≤ q → A q := fun q h => by rw [← hAe]; exact Or.inr h
  have hS : va_S A s.heap s.heap [] := va_S.rf
  have hl := lv_entry ([.ref za, .int k1]) (n := 8) (Nat.le_of_ble_eq_true rfl)
  rw [lg_entry_eq]
  generalize (lg_sl ([.ref za, .int k1]) ++ List.replicate (8 - (lg_sl ([.ref za, .int k1])).length) Slot.unset).toArray = ls at hl ⊢
  refine W.nameQ (fun Q hQ => ?_)
  refine W.nameR (fun R hR => ?_)
  have hRf : 6 ≤ R.frames := by rw [hR]; exact Nat.le_of_ble_eq_true rfl
  have hRl : 165 ≤ R.locals := by rw [hR]; exact Nat.le_of_ble_eq_true rfl
  have hRc : 0 ≤ R.cells := by rw [hR]; exact Nat.le_of_ble_eq_true rfl
  have hRs : 0 ≤ R.slots := by rw [hR]; exact Nat.le_of_ble_eq_true rfl
  have hF : fr K L [12, 14, 15, 32, 42, 45, 46, 79, 80, 81, 83] M M := fr.rf
  have hG : fG K L [1, 7, 8, 13, 14, 15, 16, 17, 18] M M := fG.rf
  have hl : lv_has ls 8 [(0, .ref za), (1, .int k1)] := hl
  have hW0 := hW
  refine lv_aload_n hx hb dX13_close_0 rfl (lv_at hl 0 rfl) ?_
  refine lv_iconst (v := 0) hx hb dX13_close_1 (by decide) ?_
  refine va_put (D := D) (ci := 13) (v := .int 0) (ty := .int) (C := RX13) (T := TX13) (N := 20) hx hb hg inG13 tyX13 tyX13_ok nmX13 hown hK hP hD hS 0 rfl rfl 0 (by decide) (hg _ wd_720) (fun _ h9 => h9) rfl (by decide +kernel) rfl rfl (Nat.le_of_ble_eq_true rfl) dX13_close_2 (fun H_1 locs hP hD hS => ?_)
  have hP : va_P D vwCl ([(za, .inr (13, [.int 0, .ref z1, .int (nI z2), .int (nI z3), .int z4, .int z5, .ref z6, .ref z7, .ref z8, .ref z9, .int (nI z10), .ref z11, .ref z12, .ref z13, .ref z14, .ref z15, .int (nI z16), .ref z17, .int z18, .ref z19]))] ++ va_pl L M) H_1 := hP
  have hD : va_D A ([(za, .inr (13, [.int 0, .ref z1, .int (nI z2), .int (nI z3), .int z4, .int z5, .ref z6, .ref z7, .ref z8, .ref z9, .int (nI z10), .ref z11, .ref z12, .ref z13, .ref z14, .ref z15, .int (nI z16), .ref z17, .int z18, .ref z19]))] ++ va_pl L M) := hD
  refine lv_aload_n hx hb dX13_close_5 rfl (lv_at hl 0 rfl) ?_
  refine lv_iload_n hx hb dX13_close_6 rfl (lv_at hl 1 rfl) ?_
  have hPc : va_P D vwCl ([(za, .inr (13, [.int 0, .ref z1, .int (nI z2), .int (nI z3), .int z4, .int z5, .ref z6, .ref z7, .ref z8, .ref z9, .int (nI z10), .ref z11, .ref z12, .ref z13, .ref z14, .ref z15, .int (nI z16), .ref z17, .int z18, .ref z19]))] ++ va_pl L M) H_1 := hP
  have hDc : va_D A ([(za, .inr (13, [.int 0, .ref z1, .int (nI z2), .int (nI z3), .int z4, .int z5, .ref z6, .ref z7, .ref z8, .ref z9, .int (nI z10), .ref z11, .ref z12, .ref z13, .ref z14, .ref z15, .int (nI z16), .ref z17, .int z18, .ref z19]))] ++ va_pl L M) := hD
  have hFc : ∀ q, va_A ([(za, .inr (13, [.int 0, .ref z1, .int (nI z2), .int (nI z3), .int z4, .int z5, .ref z6, .ref z7, .ref z8, .ref z9, .int (nI z10), .ref z11, .ref z12, .ref z13, .ref z14, .ref z15, .int (nI z16), .ref z17, .int z18, .ref z19]))] ++ va_pl L M) H_1.size q → A q := pg_free hDc hS hA
  refine va_calli (va_runV (As := [.int k1]) (rest := []) ⟨hx, hb, hml, hown, hg⟩ (r_X13_isHouse l D cy K L M H_1.size za 0 z1 z2 z3 z4 z5 z6 z7 z8 z9 z10 z11 z12 z13 z14 z15 z16 z17 z18 z19 k1  hW i1 b2 b3 i6 i7 i8 i9 b10 i11 i12 i13 i14 i15 b16 i17 i19) (cwV 1 hg (gV wd_714 wd_715 wd_716 wd_717 wd_718) rfl rfl rfl (by decide +kernel) ⟨(Nat.le_trans (Nat.le_of_ble_eq_true rfl) hRf), (Nat.le_trans (Nat.le_of_ble_eq_true rfl) hRl)⟩) ⟨PG.blind, va_recv hK hP (ci := 13) (q0 := 0) rfl rfl, fun U hU hW => ⟨rfl, PG.at hPc hK hDc hN hU hW⟩⟩ rfl rfl hl.1 rfl (lv_room (Nat.le_of_ble_eq_true rfl)) dX13_close_7 ⟨(Nat.le_trans (Nat.le_of_ble_eq_true rfl) hRc), (Nat.le_trans (Nat.le_of_ble_eq_true rfl) hRs)⟩) hS (fun q _ h => hFc q h) hFc (fun r_3 M_4 t H_2 locs ht hvm hw hB hz1 hk1 hS => ?_)
  have hp_5 := hw
  obtain ⟨hP1, hD1⟩ := hB
  rw [ht] at hP1
  have hP : va_P D vwCl ([(za, .inr (13, [.int 0, .ref z1, .int (nI z2), .int (nI z3), .int z4, .int z5, .ref z6, .ref z7, .ref z8, .ref z9, .int (nI z10), .ref z11, .ref z12, .ref z13, .ref z14, .ref z15, .int (nI z16), .ref z17, .int z18, .ref z19]))] ++ va_pl L M) H_2 := hP1
  have hD : va_D A ([(za, .inr (13, [.int 0, .ref z1, .int (nI z2), .int (nI z3), .int z4, .int z5, .ref z6, .ref z7, .ref z8, .ref z9, .int (nI z10), .ref z11, .ref z12, .ref z13, .ref z14, .ref z15, .int (nI z16), .ref z17, .int z18, .ref z19]))] ++ va_pl L M) := hD1.mono hFc
  rcases hp_5 with ⟨rfl, c_6, c_7⟩ | rfl
  · have hz := rfl (a := 0)
    refine lv_if_ne (tgt := 19) hx hb dX13_close_10 (by decide) (fun _ => ?_) (fun c_8 => absurd c_8 (by decide))
    refine lv_aload_n hx hb dX13_close_19 rfl (lv_at hl 0 rfl) ?_
    refine va_get (D := D) (ci := 13) (v := .ref z1) (C := RX13) (T := TX13) (N := 20) hx hb hg inG13 hown hK hP 0 rfl rfl 1 (by decide) (hg _ wd_739) (fun _ h9 => h9) rfl dX13_close_20 ?_
    refine lv_iload_n hx hb dX13_close_23 rfl (lv_at hl 1 rfl) ?_
    obtain ⟨f9, hM9, hf9⟩ := hW.open_23 i1
    have hi_10 : vp_in k1 8 := (inbW (a := z2) (by omega) (inb k1 z2 (by omega) c_6 c_7))
    refine pg_aldq hx hb hK hP i1.1 9 hM9 rfl hi_10 dX13_close_24 ?_
    obtain ⟨b11, eb_12, hb_13⟩ := hf9 _ (vp_lt hi_10)
    rw [eb_12]
    have hact : ACT z1 z2 b11 M := ⟨(k1 : Int32).toNatClampNeg, vp_lt (inb k1 z2 (by omega) c_6 c_7), by rw [show RFc (M z1) = f9 from by rw [hM9]; rfl]; exact eb_12⟩
    have hAT := GI.at hGI hact
    have hV : VW K L M M b11 (fx M b11) (ax M b11) := VW.rf b11 hGI.2.2.2
    refine lv_astore_n (lv' := [(2, .ref b11), (0, .ref za), (1, .int k1)]) hx hb dX13_close_25 rfl hl (by decide) rfl (fun ls hl => ?_)
    obtain ⟨fs14, hM14, hn14, hl14⟩ := hW.open_12 hb_13
    obtain ⟨v15, hv15, hc15⟩ : ∃ v : Nat, fs14[0]? = some (.int (nI v) : Value) ∧ v ≤ 999 := hl14 0 (by decide)
    have hx0 : (fx M b11 0) = ((v15 : Nat) : Int) := (congrFun hV.2.1 0).symm.trans ((fx_of hM14 rfl hv15).trans (nI_toInt (by omega)))
    obtain ⟨v16, hv16, hc16⟩ : ∃ v : Int32, fs14[1]? = some (.int v : Value) ∧ (v = (-1) ∨ ∃ c : Nat, c < 1000 ∧ v = nI c) := hl14 1 (by decide)
    have hx1 : (fx M b11 1) = (v16 : Int32).toInt := (congrFun hV.2.1 1).symm.trans (fx_of hM14 rfl hv16)
    obtain ⟨v17, hv17, hc17⟩ : ∃ v : Nat, fs14[11]? = some (.int (nI v) : Value) ∧ v ≤ 16 := hl14 11 (by decide)
    have hx11 : (fx M b11 11) = ((v17 : Nat) : Int) := (congrFun hV.2.1 11).symm.trans ((fx_of hM14 rfl hv17).trans (nI_toInt (by omega)))
    obtain ⟨v18, hv18, hc18⟩ : ∃ v : Nat, fs14[12]? = some (.int (nI v) : Value) ∧ v ≤ 12 := hl14 12 (by decide)
    have hx12 : (fx M b11 12) = ((v18 : Nat) : Int) := (congrFun hV.2.1 12).symm.trans ((fx_of hM14 rfl hv18).trans (nI_toInt (by omega)))
    obtain ⟨v19, hv19, hc19⟩ : ∃ v : Nat, fs14[13]? = some (.int (nI v) : Value) ∧ v ≤ 12 := hl14 13 (by decide)
    have hx13 : (fx M b11 13) = ((v19 : Nat) : Int) := (congrFun hV.2.1 13).symm.trans ((fx_of hM14 rfl hv19).trans (nI_toInt (by omega)))
    obtain ⟨v20, hv20, hc20⟩ : ∃ v : Nat, fs14[37]? = some (.ref v : Value) ∧ isk K L v 38 12 := hl14 37 (by decide)
    obtain ⟨f21, hM21, hf21⟩ := hW.open_38 hc20
    have hy37 : (ax M b11 37) = f21 := (congrFun hV.2.2.1 37).symm.trans (ax_of hM14 (by decide) hv20 hM21)
    have hb13 := hx13
    have hb12 := hx12
    have hb0 := hx0
    have hb37 := hy37
    refine lv_aload_n hx hb dX13_close_26 rfl (lv_at hl 0 rfl) ?_
    refine pg_getN (D := D) (ci := 12) (v := .int (nI v19)) (C := RX12) (T := TX12) (N := 51) hx hb hg inG12 hown hK hP hb_13.1 hM14 rfl 13 (by decide) (hN.use (Cond.fieldLinkNest RX13 244 RX12 "closed" "I" RX13) 22 rfl rfl) (fun _ h9 => h9) hv19 dX13_close_27 ?_
    refine lv_aload_n hx hb dX13_close_30 rfl (lv_at hl 0 rfl) ?_
    refine pg_getN (D := D) (ci := 12) (v := .int (nI v18)) (C := RX12) (T := TX12) (N := 51) hx hb hg inG12 hown hK hP hb_13.1 hM14 rfl 12 (by decide) (hN.use (Cond.fieldLinkNest RX13 233 RX12 "years" "I" RX13) 21 rfl rfl) (fun _ h9 => h9) hv18 dX13_close_31 ?_
    refine lv_icmp_ne (tgt := 44) hx hb dX13_close_34 (by decide) (fun c_22 => ?_) (fun c_22 => ?_)
    · have hz := rfl (a := 0)
      have n_23 : ¬ (v19 = v18) := fun q => c_22 ((iEQ (a := v19) (b := v18) (by omega) (by omega)).mpr q)
      refine lv_aload_n hx hb dX13_close_44 rfl (lv_at hl 0 rfl) ?_
      refine pg_getN (D := D) (ci := 12) (v := .int (nI v17)) (C := RX12) (T := TX12) (N := 51) hx hb hg inG12 hown hK hP hb_13.1 hM14 rfl 11 (by decide) (hN.use (Cond.fieldLinkNest RX13 142 RX12 "rules" "I" RX13) 20 rfl rfl) (fun _ h9 => h9) hv17 dX13_close_45 ?_
      refine lv_if_ne (tgt := 57) hx hb dX13_close_48 (by decide) (fun c_24 => ?_) (fun c_24 => ?_)
      · have hz := rfl (a := 0)
        have n_25 : ¬ (v17 = 0) := fun q => c_24 ((iEQ (a := v17) (b := 0) (by omega) (by omega)).mpr q)
        refine lv_aload_n hx hb dX13_close_57 rfl (lv_at hl 0 rfl) ?_
        refine pg_getN (D := D) (ci := 12) (v := .int v16) (C := RX12) (T := TX12) (N := 51) hx hb hg inG12 hown hK hP hb_13.1 hM14 rfl 1 (by decide) (hN.use (Cond.fieldLinkNest RX13 80 RX12 "to" "I" RX13) 10 rfl rfl) (fun _ h9 => h9) hv16 dX13_close_58 ?_
        rcases hc16 with rfl | ⟨c_26, hc_27, rfl⟩
        · have hz := rfl (a := 0)
          refine lv_iconst (v := 1) hx hb dX13_close_61 (by decide) ?_
          refine lv_iadd hx hb dX13_close_62 ?_
          refine lv_topi (fun f_28 ef_28 => ?_)
          obtain rfl : f_28 = 0 := by rw [ef_28]; decide
          refine lv_istore_n (lv' := [(3, .int 0), (2, .ref b11), (0, .ref za), (1, .int k1)]) hx hb dX13_close_63 rfl hl (by decide) rfl (fun ls hl => ?_)
          have hlt13 : v19 < v18 := by have h := hAT.2.2.2.2.1; omega
          refine lv_aload_n hx hb dX13_close_64 rfl (lv_at hl 1 rfl) ?_
          refine pg_getN (D := D) (ci := 12) (v := .ref v20) (C := RX12) (T := TX12) (N := 51) hx hb hg inG12 hown hK hP hb_13.1 hM14 rfl 37 (by decide) (hN.use (Cond.fieldLinkNest RX13 236 RX12 "end" "[I" RX13) 46 rfl rfl) (fun _ h9 => h9) hv20 dX13_close_65 ?_
          refine lv_aload_n hx hb dX13_close_68 rfl (lv_at hl 1 rfl) ?_
          refine pg_getN (D := D) (ci := 12) (v := .int (nI v19)) (C := RX12) (T := TX12) (N := 51) hx hb hg inG12 hown hK hP hb_13.1 hM14 rfl 13 (by decide) (hN.use (Cond.fieldLinkNest RX13 244 RX12 "closed" "I" RX13) 22 rfl rfl) (fun _ h9 => h9) hv19 dX13_close_69 ?_
          have hi_29 : vp_in (nI v19) 12 := (inbN v19 12 (by omega) (by omega))
          refine pg_iald hx hb hK hP hc20.1 0 hM21 rfl hi_29 dX13_close_72 ?_
          have hp_30 := hf21 _ (vp_lt hi_29)
          obtain ⟨c_31, hc_32, ec_33⟩ := hp_30
          rw [ec_33]
          refine lv_istore (lv' := [(4, .int (nI c_31)), (3, .int 0), (2, .ref b11), (0, .ref za), (1, .int k1)]) hx hb dX13_close_73 hl (by decide) rfl (fun ls hl => ?_)
          have hx1b : fx M b11 1 = ((0 : Nat) : Int) - 1 := by rw [hx1]; first | decide | (rw [nI_toInt (by omega)]; omega)
          obtain ⟨hq1, hq2, hq3, hq4⟩ := heC hAT.2.2.2.2 hb13 hb12 (by omega) (by omega) hb37 (nI_cl (by omega)) ec_33 (by omega)
          have h11 : 1 ≤ fx M b11 11 := by omega
          have hT37 : (ax M b11 37 v19).toInt = ((c_31 : Nat) : Int) := by
            have h := ec_33
            rw [nI_cl (by omega)] at h
            rw [hb37, h, nI_toInt (by omega)]
          refine lv_iload_n hx hb dX13_close_75 rfl (lv_at hl 1 rfl) ?_
          refine lv_istore (lv' := [(5, .int 0), (4, .int (nI c_31)), (3, .int 0), (2, .ref b11), (0, .ref za), (1, .int k1)]) hx hb dX13_close_76 hl (by decide) rfl (fun ls hl => ?_)
          have key_34 : ∀ (fu_36 : Nat) (v5w37 : Nat) (M_39 : Hp) (H_40 : Heap) (locs : List Loc) (ls : Array Slot), 1001 - v5w37 < fu_36 → M_39 b11 = .inr (12, fs14) → v5w37 ≤ 1000 → WOM cy K L M_39 → fr K L [12, 14, 15, 32, 42, 45, 46, 79, 80, 81, 83] M M_39 → fG K L [1, 7, 8, 13, 14, 15, 16, 17, 18] M M_39 → VW K L M M_39 b11 (fx M b11) (ax M b11) → va_P D vwCl ([(za, .inr (13, [.int 0, .ref z1, .int (nI z2), .int (nI z3), .int z4, .int z5, .ref z6, .ref z7, .ref z8, .ref z9, .int (nI z10), .ref z11, .ref z12, .ref z13, .ref z14, .ref z15, .int (nI z16), .ref z17, .int z18, .ref z19]))] ++ va_pl L M_39) H_40 → va_D A ([(za, .inr (13, [.int 0, .ref z1, .int (nI z2), .int (nI z3), .int z4, .int z5, .ref z6, .ref z7, .ref z8, .ref z9, .int (nI z10), .ref z11, .ref z12, .ref z13, .ref z14, .ref z15, .int (nI z16), .ref z17, .int z18, .ref z19]))] ++ va_pl L M_39) → va_S A s.heap H_40 locs → lv_has ls 8 [(5, .int (nI v5w37)), (4, .int (nI c_31)), (3, .int 0), (2, .ref b11), (0, .ref za), (1, .int k1)] → W p l e R s m ([.ref za, .int k1] : List Value).toArray below meth c H_40 locs 0 0 Q (F0 m 78 ls []) := by
            intro fu_36
            induction fu_36 with
            | zero => intro v5w37 M_39 H_40 locs ls h; exact absurd h (Nat.not_lt_zero _)
            | succ fu_36 ih_35 =>
              intro v5w37 M_39 H_40 locs ls hfu hM_41 hx_38 hW hF hG hV hP hD hS hl
              refine lv_iload hx hb dX13_close_78 (lv_at hl 0 rfl) ?_
              refine lv_iload hx hb dX13_close_80 (lv_at hl 1 rfl) ?_
              refine lv_icmp_gt (tgt := 108) hx hb dX13_close_82 (by decide) (fun c_42 => ?_) (fun c_42 => ?_)
              · have hz := rfl (a := 0)
                have n_43 : c_31 < v5w37 := (iLT (a := c_31) (b := v5w37) (by omega) (by omega)).mp c_42
                refine lv_aload_n hx hb dX13_close_108 rfl (lv_at hl 4 rfl) ?_
                refine lv_iload_n hx hb dX13_close_109 rfl (lv_at hl 5 rfl) ?_
                refine lv_iload hx hb dX13_close_110 (lv_at hl 1 rfl) ?_
                have hPc : va_P D vwCl ([(za, .inr (13, [.int 0, .ref z1, .int (nI z2), .int (nI z3), .int z4, .int z5, .ref z6, .ref z7, .ref z8, .ref z9, .int (nI z10), .ref z11, .ref z12, .ref z13, .ref z14, .ref z15, .int (nI z16), .ref z17, .int z18, .ref z19]))] ++ va_pl L M_39) H_40 := hP
                have hDc : va_D A ([(za, .inr (13, [.int 0, .ref z1, .int (nI z2), .int (nI z3), .int z4, .int z5, .ref z6, .ref z7, .ref z8, .ref z9, .int (nI z10), .ref z11, .ref z12, .ref z13, .ref z14, .ref z15, .int (nI z16), .ref z17, .int z18, .ref z19]))] ++ va_pl L M_39) := hD
                have hFc : ∀ q, va_A ([(za, .inr (13, [.int 0, .ref z1, .int (nI z2), .int (nI z3), .int z4, .int z5, .ref z6, .ref z7, .ref z8, .ref z9, .int (nI z10), .ref z11, .ref z12, .ref z13, .ref z14, .ref z15, .int (nI z16), .ref z17, .int z18, .ref z19]))] ++ va_pl L M_39) H_40.size q → A q := pg_free hDc hS hA
                refine va_calli (va_runV (As := [.int k1, .int (nI c_31)]) (rest := []) ⟨hx, hb, hml, hown, hg⟩ (r_X13_behind l D cy K L M_39 H_40.size za 0 z1 z2 z3 z4 z5 z6 z7 z8 z9 z10 z11 z12 z13 z14 z15 z16 z17 z18 z19 k1 (nI c_31)  hW i1 b2 b3 i6 i7 i8 i9 b10 i11 i12 i13 i14 i15 b16 i17 i19) (cwV 2 hg (gV wd_853 wd_854 wd_855 wd_717 wd_856) rfl rfl rfl (by decide +kernel) ⟨(Nat.le_trans (Nat.le_of_ble_eq_true rfl) hRf), (Nat.le_trans (Nat.le_of_ble_eq_true rfl) hRl)⟩) ⟨PG.blind, va_recv hK hP (ci := 13) (q0 := 0) rfl rfl, fun U hU hW => ⟨rfl, PG.at hPc hK hDc hN hU hW⟩⟩ rfl rfl hl.1 rfl (lv_room (Nat.le_of_ble_eq_true rfl)) dX13_close_112 ⟨(Nat.le_trans (Nat.le_of_ble_eq_true rfl) hRc), (Nat.le_trans (Nat.le_of_ble_eq_true rfl) hRs)⟩) hS (fun q _ h => hFc q h) hFc (fun r_45 M_46 t H_44 locs ht hvm hw hB hz1 hk1 hS => ?_)
                have hp_47 := hw
                obtain ⟨hP1, hD1⟩ := hB
                rw [ht] at hP1
                have hP : va_P D vwCl ([(za, .inr (13, [.int 0, .ref z1, .int (nI z2), .int (nI z3), .int z4, .int z5, .ref z6, .ref z7, .ref z8, .ref z9, .int (nI z10), .ref z11, .ref z12, .ref z13, .ref z14, .ref z15, .int (nI z16), .ref z17, .int z18, .ref z19]))] ++ va_pl L M_39) H_44 := hP1
                have hD : va_D A ([(za, .inr (13, [.int 0, .ref z1, .int (nI z2), .int (nI z3), .int z4, .int z5, .ref z6, .ref z7, .ref z8, .ref z9, .int (nI z10), .ref z11, .ref z12, .ref z13, .ref z14, .ref z15, .int (nI z16), .ref z17, .int z18, .ref z19]))] ++ va_pl L M_39) := hD1.mono hFc
                rcases hp_47 with rfl | ⟨j_48, rfl, c_49⟩
                · have hz := rfl (a := 0)
                  refine lv_istore (lv' := [(5, .int (-1)), (4, .int (nI c_31)), (3, .int 0), (2, .ref b11), (0, .ref za), (1, .int k1)]) hx hb dX13_close_115 hl (by decide) rfl (fun ls hl => ?_)
                  refine lv_iload hx hb dX13_close_117 (lv_at hl 0 rfl) ?_
                  refine lv_iconst (v := (-1)) hx hb dX13_close_119 (by decide) ?_
                  refine lv_icmp_eq (tgt := 132) hx hb dX13_close_120 (by decide) (fun _ => ?_) (fun c_50 => absurd c_50 (by decide))
                  refine lv_aload_n hx hb dX13_close_132 rfl (lv_at hl 3 rfl) ?_
                  refine lv_iconst (v := 0) hx hb dX13_close_133 (by decide) ?_
                  refine pg_putN (D := D) (ci := 12) (v := .int 0) (ty := .int) (C := RX12) (T := TX12) (N := 51) hx hb hg inG12 tyX12 tyX12_ok nmX12 hown hK hP hD hS hb_13.1 hM_41 rfl 17 (by decide) (hN.use (Cond.fieldLinkNest RX13 256 RX12 "stretches" "I" RX13) 26 rfl rfl) (fun _ h9 => h9) rfl (by decide +kernel) rfl rfl (by rw [hn14]; decide) dX13_close_134 (fun H_51 locs hP hD hS => ?_)
                  have hs_54 : (fs14.set 17 (.int 0))[17]? = some (.int (nI 0)) := List.getElem?_set_self (by rw [hn14]; decide)
                  have hk_53 := fld12_set (k := 17) (w := .int 0) hl14 (show fld12 K L 17 (fs14.set 17 (.int 0)) from ⟨0, hs_54, by omega⟩)
                  have hn_55 : (fs14.set 17 (.int 0)).length = 51 := by rw [List.length_set]; exact hn14
                  have hv_56 : (fs14.set 17 (.int 0))[0]? = some (.int (nI v15)) := by rw [List.getElem?_set_ne (by decide)]; exact hv15
                  have hv_57 : (fs14.set 17 (.int 0))[1]? = some (.int (-1)) := by rw [List.getElem?_set_ne (by decide)]; exact hv16
                  have hv_58 : (fs14.set 17 (.int 0))[11]? = some (.int (nI v17)) := by rw [List.getElem?_set_ne (by decide)]; exact hv17
                  have hv_59 : (fs14.set 17 (.int 0))[12]? = some (.int (nI v18)) := by rw [List.getElem?_set_ne (by decide)]; exact hv18
                  have hv_60 : (fs14.set 17 (.int 0))[13]? = some (.int (nI v19)) := by rw [List.getElem?_set_ne (by decide)]; exact hv19
                  have hv_61 : (fs14.set 17 (.int 0))[37]? = some (.ref v20) := by rw [List.getElem?_set_ne (by decide)]; exact hv20
                  have hb_62 : 0 ≤ 120 := by omega
                  obtain ⟨M_63, eM_63⟩ : ∃ M1 : Hp, M1 = va_up M_39 b11 (.inr (12, fs14.set 17 (.int 0))) := ⟨_, rfl⟩
                  have hV : VW K L M M_63 b11 (va_up (fx M b11) 17 (0 : Int)) (ax M b11) := by rw [eM_63]; exact hV.put hW hb_13 hM_41 hn14 rfl (by decide) rfl (by decide)
                  have hP : va_P D vwCl ([(za, .inr (13, [.int 0, .ref z1, .int (nI z2), .int (nI z3), .int z4, .int z5, .ref z6, .ref z7, .ref z8, .ref z9, .int (nI z10), .ref z11, .ref z12, .ref z13, .ref z14, .ref z15, .int (nI z16), .ref z17, .int z18, .ref z19]))] ++ va_pl L M_63) H_51 := by rw [eM_63]; exact hP
                  have hD : va_D A ([(za, .inr (13, [.int 0, .ref z1, .int (nI z2), .int (nI z3), .int z4, .int z5, .ref z6, .ref z7, .ref z8, .ref z9, .int (nI z10), .ref z11, .ref z12, .ref z13, .ref z14, .ref z15, .int (nI z16), .ref z17, .int z18, .ref z19]))] ++ va_pl L M_63) := by rw [eM_63]; exact hD
                  have hW : WOM cy K L M_63 := by rw [eM_63]; exact hW.up_12 hb_13 ⟨_, rfl, hn_55, hk_53⟩
                  have hF : fr K L [12, 14, 15, 32, 42, 45, 46, 79, 80, 81, 83] M M_63 := by rw [eM_63]; exact hF.up hb_13 (by decide)
                  have hG : fG K L [1, 7, 8, 13, 14, 15, 16, 17, 18] M M_63 := by rw [eM_63]; exact hG.up hM_41 (by decide)
                  have hM_64 : M_63 b11 = .inr (12, fs14.set 17 (.int 0)) := by rw [eM_63]; exact va_up_self _ _ _
                  refine lv_iconst (v := 0) hx hb dX13_close_137 (by decide) ?_
                  refine lv_istore (lv' := [(6, .int 0), (5, .int (-1)), (4, .int (nI c_31)), (3, .int 0), (2, .ref b11), (0, .ref za), (1, .int k1)]) hx hb dX13_close_138 hl (by decide) rfl (fun ls hl => ?_)
                  have key_65 : ∀ (fu_67 : Nat) (v6w68 : Nat) (M_70 : Hp) (H_71 : Heap) (locs : List Loc) (ls : Array Slot), 24 - v6w68 < fu_67 → M_70 b11 = .inr (12, fs14.set 17 (.int 0)) → v6w68 ≤ 24 → WOM cy K L M_70 → fr K L [12, 14, 15, 32, 42, 45, 46, 79, 80, 81, 83] M M_70 → fG K L [1, 7, 8, 13, 14, 15, 16, 17, 18] M M_70 → VW K L M M_70 b11 (va_up (fx M b11) 17 (0 : Int)) (ax M b11) → va_P D vwCl ([(za, .inr (13, [.int 0, .ref z1, .int (nI z2), .int (nI z3), .int z4, .int z5, .ref z6, .ref z7, .ref z8, .ref z9, .int (nI z10), .ref z11, .ref z12, .ref z13, .ref z14, .ref z15, .int (nI z16), .ref z17, .int z18, .ref z19]))] ++ va_pl L M_70) H_71 → va_D A ([(za, .inr (13, [.int 0, .ref z1, .int (nI z2), .int (nI z3), .int z4, .int z5, .ref z6, .ref z7, .ref z8, .ref z9, .int (nI z10), .ref z11, .ref z12, .ref z13, .ref z14, .ref z15, .int (nI z16), .ref z17, .int z18, .ref z19]))] ++ va_pl L M_70) → va_S A s.heap H_71 locs → lv_has ls 8 [(6, .int (nI v6w68)), (5, .int (-1)), (4, .int (nI c_31)), (3, .int 0), (2, .ref b11), (0, .ref za), (1, .int k1)] → W p l e R s m ([.ref za, .int k1] : List Value).toArray below meth c H_71 locs 0 0 Q (F0 m 140 ls []) := by
                    intro fu_67
                    induction fu_67 with
                    | zero => intro v6w68 M_70 H_71 locs ls h; exact absurd h (Nat.not_lt_zero _)
                    | succ fu_67 ih_66 =>
                      intro v6w68 M_70 H_71 locs ls hfu hM_72 hx_69 hW hF hG hV hP hD hS hl
                      refine lv_iload hx hb dX13_close_140 (lv_at hl 0 rfl) ?_
                      refine lv_bipush (v := 24) hx hb dX13_close_142 (by decide) ?_
                      refine lv_icmp_ge (tgt := 161) hx hb dX13_close_144 (by decide) (fun c_73 => ?_) (fun c_73 => ?_)
                      · have hz := rfl (a := 0)
                        have n_74 : 24 ≤ v6w68 := (iLE (a := 24) (b := v6w68) (by omega) (by omega)).mp c_73
                        refine lv_iload_n hx hb dX13_close_161 rfl (lv_at hl 3 rfl) ?_
                        refine lv_istore (lv' := [(6, .int 0), (5, .int (-1)), (4, .int (nI c_31)), (3, .int 0), (2, .ref b11), (0, .ref za), (1, .int k1)]) hx hb dX13_close_162 hl (by decide) rfl (fun ls hl => ?_)
                        have key_75 : ∀ (fu_77 : Nat) (v6w78 : Nat) (gnw78 : Nat) (gpw78 : Nat → Int32) (gqw78 : Nat → Int32) (M_81 : Hp) (H_82 : Heap) (locs : List Loc) (ls : Array Slot), 1001 - v6w78 < fu_77 → v6w78 ≤ c_31 + 1 → SD 0 gnw78 v6w78 gpw78 gqw78 → WOM cy K L M_81 → fr K L [12, 14, 15, 32, 42, 45, 46, 79, 80, 81, 83] M M_81 → fG K L [1, 7, 8, 13, 14, 15, 16, 17, 18] M M_81 → VW K L M M_81 b11 (va_up (fx M b11) 17 ((gnw78 : Nat) : Int)) (va_up (va_up (ax M b11) 44 gpw78) 45 gqw78) → va_P D vwCl ([(za, .inr (13, [.int 0, .ref z1, .int (nI z2), .int (nI z3), .int z4, .int z5, .ref z6, .ref z7, .ref z8, .ref z9, .int (nI z10), .ref z11, .ref z12, .ref z13, .ref z14, .ref z15, .int (nI z16), .ref z17, .int z18, .ref z19]))] ++ va_pl L M_81) H_82 → va_D A ([(za, .inr (13, [.int 0, .ref z1, .int (nI z2), .int (nI z3), .int z4, .int z5, .ref z6, .ref z7, .ref z8, .ref z9, .int (nI z10), .ref z11, .ref z12, .ref z13, .ref z14, .ref z15, .int (nI z16), .ref z17, .int z18, .ref z19]))] ++ va_pl L M_81) → va_S A s.heap H_82 locs → lv_has ls 8 [(6, .int (nI v6w78)), (5, .int (-1)), (4, .int (nI c_31)), (3, .int 0), (2, .ref b11), (0, .ref za), (1, .int k1)] → W p l e R s m ([.ref za, .int k1] : List Value).toArray below meth c H_82 locs 0 0 Q (F0 m 164 ls []) := by
                          intro fu_77
                          induction fu_77 with
                          | zero => intro v6w78 gnw78 gpw78 gqw78 M_81 H_82 locs ls h; exact absurd h (Nat.not_lt_zero _)
                          | succ fu_77 ih_76 =>
                            intro v6w78 gnw78 gpw78 gqw78 M_81 H_82 locs ls hfu hx_79 hx_80 hW hF hG hV hP hD hS hl
                            refine lv_iload hx hb dX13_close_164 (lv_at hl 0 rfl) ?_
                            refine lv_iload hx hb dX13_close_166 (lv_at hl 2 rfl) ?_
                            refine lv_icmp_gt (tgt := 238) hx hb dX13_close_168 (by decide) (fun c_83 => ?_) (fun c_83 => ?_)
                            · have hz := rfl (a := 0)
                              have n_84 : c_31 < v6w78 := (iLT (a := c_31) (b := v6w78) (by omega) (by omega)).mp c_83
                              obtain ⟨fs85, hM85, hn85, hl85⟩ := hW.open_12 hb_13
                              obtain ⟨v86, hv86, hc86⟩ : ∃ v : Nat, fs85[17]? = some (.int (nI v) : Value) ∧ v ≤ 120 := hl85 17 (by decide)
                              have hx17 : ((gnw78 : Nat) : Int) = ((v86 : Nat) : Int) := (congrFun hV.2.1 17).symm.trans ((fx_of hM85 rfl hv86).trans (nI_toInt (by omega)))
                              have hSD := hx_80
                              obtain ⟨hs1, hs2, hs3, hs4⟩ := hx_80
                              have hNn : 1 ≤ gnw78 ∧ 1 ≤ (gqw78 0).toInt := by rcases hs3 with q | q <;> first | exact q | omega
                              have hN1 := hNn.1
                              have hs45 := hNn.2
                              refine lv_aload_n hx hb dX13_close_238 rfl (lv_at hl 4 rfl) ?_
                              refine pg_getN (D := D) (ci := 12) (v := .int (nI v86)) (C := RX12) (T := TX12) (N := 51) hx hb hg inG12 hown hK hP hb_13.1 hM85 rfl 17 (by decide) (hN.use (Cond.fieldLinkNest RX13 256 RX12 "stretches" "I" RX13) 26 rfl rfl) (fun _ h9 => h9) hv86 dX13_close_239 ?_
                              refine lv_istore (lv' := [(6, .int (nI v86)), (5, .int (-1)), (4, .int (nI c_31)), (3, .int 0), (2, .ref b11), (0, .ref za), (1, .int k1)]) hx hb dX13_close_242 hl (by decide) rfl (fun ls hl => ?_)
                              refine lv_aload_n hx hb dX13_close_244 rfl (lv_at hl 5 rfl) ?_
                              refine lv_aload_n hx hb dX13_close_245 rfl (lv_at hl 4 rfl) ?_
                              refine lv_iload hx hb dX13_close_246 (lv_at hl 0 rfl) ?_
                              have hPc : va_P D vwCl ([(za, .inr (13, [.int 0, .ref z1, .int (nI z2), .int (nI z3), .int z4, .int z5, .ref z6, .ref z7, .ref z8, .ref z9, .int (nI z10), .ref z11, .ref z12, .ref z13, .ref z14, .ref z15, .int (nI z16), .ref z17, .int z18, .ref z19]))] ++ va_pl L M_81) H_82 := hP
                              have hDc : va_D A ([(za, .inr (13, [.int 0, .ref z1, .int (nI z2), .int (nI z3), .int z4, .int z5, .ref z6, .ref z7, .ref z8, .ref z9, .int (nI z10), .ref z11, .ref z12, .ref z13, .ref z14, .ref z15, .int (nI z16), .ref z17, .int z18, .ref z19]))] ++ va_pl L M_81) := hD
                              have hFc : ∀ q, va_A ([(za, .inr (13, [.int 0, .ref z1, .int (nI z2), .int (nI z3), .int z4, .int z5, .ref z6, .ref z7, .ref z8, .ref z9, .int (nI z10), .ref z11, .ref z12, .ref z13, .ref z14, .ref z15, .int (nI z16), .ref z17, .int z18, .ref z19]))] ++ va_pl L M_81) H_82.size q → A q := pg_free hDc hS hA
                              refine va_callv (va_runV (As := [.ref b11, .int (nI v86)]) (rest := []) ⟨hx, hb, hml, hown, hg⟩ (g_X13_looses l D cy K L M_81 H_82.size za 0 z1 z2 z3 z4 z5 z6 z7 z8 z9 z10 z11 z12 z13 z14 z15 z16 z17 z18 z19 b11 v86  hW i1 b2 b3 i6 i7 i8 i9 b10 i11 i12 i13 i14 i15 b16 i17 i19 hb_13 (by omega) hV.2.2.2 (by omega) (by rw [hV.2.2.1]; exact hs45)) (cwV 2 hg (gV wd_857 wd_858 wd_859 wd_717 wd_860) rfl rfl rfl (by decide +kernel) ⟨(Nat.le_trans (Nat.le_of_ble_eq_true rfl) hRf), (Nat.le_trans (Nat.le_of_ble_eq_true rfl) hRl)⟩) ⟨PG.blind, va_recv hK hP (ci := 13) (q0 := 0) rfl rfl, fun U hU hW => ⟨rfl, PG.at hPc hK hDc hN hU hW⟩⟩ rfl rfl hl.1 rfl (lv_room (Nat.le_of_ble_eq_true rfl)) dX13_close_248 ⟨(Nat.le_trans (Nat.le_of_ble_eq_true rfl) hRc), (Nat.le_trans (Nat.le_of_ble_eq_true rfl) hRs)⟩) hS (fun q _ h => hFc q h) hFc (fun M_89 t H_87 locs ht hvm hw hB hz1 hk1 hS => ?_)
                              have hWb := hW
                              obtain ⟨hW, hF2, hG2, hp_90⟩ := hw
                              obtain ⟨hP1, hD1⟩ := hB
                              rw [ht] at hP1
                              have hP : va_P D vwCl ([(za, .inr (13, [.int 0, .ref z1, .int (nI z2), .int (nI z3), .int z4, .int z5, .ref z6, .ref z7, .ref z8, .ref z9, .int (nI z10), .ref z11, .ref z12, .ref z13, .ref z14, .ref z15, .int (nI z16), .ref z17, .int z18, .ref z19]))] ++ va_pl L M_89) H_87 := hP1
                              have hD : va_D A ([(za, .inr (13, [.int 0, .ref z1, .int (nI z2), .int (nI z3), .int z4, .int z5, .ref z6, .ref z7, .ref z8, .ref z9, .int (nI z10), .ref z11, .ref z12, .ref z13, .ref z14, .ref z15, .int (nI z16), .ref z17, .int z18, .ref z19]))] ++ va_pl L M_89) := hD1.mono hFc
                              have hM_91 : M_89 b11 = .inr (12, fs85) := (hF2.at hb_13 (by decide)).trans hM85
                              have hF : fr K L [12, 14, 15, 32, 42, 45, 46, 79, 80, 81, 83] M M_89 := hF.tr hF2 (by decide)
                              have hG : fG K L [1, 7, 8, 13, 14, 15, 16, 17, 18] M M_89 := hG.tr hWb hG2 (by decide)
                              have hV : VW K L M M_89 b11 (va_up (fx M b11) 17 ((gnw78 : Nat) : Int)) (va_up (va_up (ax M b11) 44 gpw78) 45 gqw78) := hV.cal hWb hW hF2 hG2 (by decide) (by decide) hb_13
                              refine lv_iconst (v := 0) hx hb dX13_close_251 (by decide) ?_
                              refine lv_istore (lv' := [(7, .int 0), (6, .int (nI v86)), (5, .int (-1)), (4, .int (nI c_31)), (3, .int 0), (2, .ref b11), (0, .ref za), (1, .int k1)]) hx hb dX13_close_252 hl (by decide) rfl (fun ls hl => ?_)
                              have key_92 : ∀ (fu_94 : Nat) (v7w95 : Nat) (zgw95 : Nat) (M_98 : Hp) (H_99 : Heap) (locs : List Loc) (ls : Array Slot), 1001 - v7w95 < fu_94 → v7w95 ≤ v86 → zgw95 ≤ 24 → WOM cy K L M_98 → fr K L [12, 14, 15, 32, 42, 45, 46, 79, 80, 81, 83] M M_98 → fG K L [1, 7, 8, 13, 14, 15, 16, 17, 18] M M_98 → VW K L M M_98 b11 (va_up (fx M b11) 17 ((gnw78 : Nat) : Int)) (va_up (va_up (ax M b11) 44 gpw78) 45 gqw78) → va_P D vwCl ([(za, .inr (13, [.int 0, .ref z1, .int (nI z2), .int (nI z3), .int z4, .int z5, .ref z6, .ref z7, .ref z8, .ref z9, .int (nI z10), .ref z11, .ref z12, .ref z13, .ref z14, .ref z15, .int (nI zgw95), .ref z17, .int z18, .ref z19]))] ++ va_pl L M_98) H_99 → va_D A ([(za, .inr (13, [.int 0, .ref z1, .int (nI z2), .int (nI z3), .int z4, .int z5, .ref z6, .ref z7, .ref z8, .ref z9, .int (nI z10), .ref z11, .ref z12, .ref z13, .ref z14, .ref z15, .int (nI zgw95), .ref z17, .int z18, .ref z19]))] ++ va_pl L M_98) → va_S A s.heap H_99 locs → lv_has ls 8 [(7, .int (nI v7w95)), (6, .int (nI v86)), (5, .int (-1)), (4, .int (nI c_31)), (3, .int 0), (2, .ref b11), (0, .ref za), (1, .int k1)] → W p l e R s m ([.ref za, .int k1] : List Value).toArray below meth c H_99 locs 0 0 Q (F0 m 254 ls []) := by
                                intro fu_94
                                induction fu_94 with
                                | zero => intro v7w95 zgw95 M_98 H_99 locs ls h; exact absurd h (Nat.not_lt_zero _)
                                | succ fu_94 ih_93 =>
                                  intro v7w95 zgw95 M_98 H_99 locs ls hfu hx_96 hx_97 hW hF hG hV hP hD hS hl
                                  refine lv_iload hx hb dX13_close_254 (lv_at hl 0 rfl) ?_
                                  refine lv_iload hx hb dX13_close_256 (lv_at hl 1 rfl) ?_
                                  refine lv_icmp_ge (tgt := 275) hx hb dX13_close_258 (by decide) (fun c_100 => ?_) (fun c_100 => ?_)
                                  · have hz := rfl (a := 0)
                                    have n_101 : v86 ≤ v7w95 := (iLE (a := v86) (b := v7w95) (by omega) (by omega)).mp c_100
                                    refine lv_iconst (v := 0) hx hb dX13_close_275 (by decide) ?_
                                    refine lv_istore (lv' := [(7, .int 0), (6, .int (nI v86)), (5, .int (-1)), (4, .int (nI c_31)), (3, .int 0), (2, .ref b11), (0, .ref za), (1, .int k1)]) hx hb dX13_close_276 hl (by decide) rfl (fun ls hl => ?_)
                                    have key_102 : ∀ (fu_104 : Nat) (v7w105 : Nat) (zgw105 : Nat) (gnw105 : Nat) (gpw105 : Nat → Int32) (gqw105 : Nat → Int32) (M_109 : Hp) (H_110 : Heap) (locs : List Loc) (ls : Array Slot), 24 - v7w105 < fu_104 → v7w105 ≤ 20 → zgw105 ≤ 24 → gnw105 ≤ 100 + v7w105 → WOM cy K L M_109 → fr K L [12, 14, 15, 32, 42, 45, 46, 79, 80, 81, 83] M M_109 → fG K L [1, 7, 8, 13, 14, 15, 16, 17, 18] M M_109 → VW K L M M_109 b11 (va_up (fx M b11) 17 ((gnw105 : Nat) : Int)) (va_up (va_up (ax M b11) 44 gpw105) 45 gqw105) → va_P D vwCl ([(za, .inr (13, [.int 0, .ref z1, .int (nI z2), .int (nI z3), .int z4, .int z5, .ref z6, .ref z7, .ref z8, .ref z9, .int (nI z10), .ref z11, .ref z12, .ref z13, .ref z14, .ref z15, .int (nI zgw105), .ref z17, .int z18, .ref z19]))] ++ va_pl L M_109) H_110 → va_D A ([(za, .inr (13, [.int 0, .ref z1, .int (nI z2), .int (nI z3), .int z4, .int z5, .ref z6, .ref z7, .ref z8, .ref z9, .int (nI z10), .ref z11, .ref z12, .ref z13, .ref z14, .ref z15, .int (nI zgw105), .ref z17, .int z18, .ref z19]))] ++ va_pl L M_109) → va_S A s.heap H_110 locs → lv_has ls 8 [(7, .int (nI v7w105)), (6, .int (nI v86)), (5, .int (-1)), (4, .int (nI c_31)), (3, .int 0), (2, .ref b11), (0, .ref za), (1, .int k1)] → W p l e R s m ([.ref za, .int k1] : List Value).toArray below meth c H_110 locs 0 0 Q (F0 m 278 ls []) := by
                                      intro fu_104
                                      induction fu_104 with
                                      | zero => intro v7w105 zgw105 gnw105 gpw105 gqw105 M_109 H_110 locs ls h; exact absurd h (Nat.not_lt_zero _)
                                      | succ fu_104 ih_103 =>
                                        intro v7w105 zgw105 gnw105 gpw105 gqw105 M_109 H_110 locs ls hfu hx_106 hx_107 hx_108 hW hF hG hV hP hD hS hl
                                        refine lv_iload hx hb dX13_close_278 (lv_at hl 0 rfl) ?_
                                        refine lv_aload_n hx hb dX13_close_280 rfl (lv_at hl 5 rfl) ?_
                                        obtain ⟨fs111, hM111, hn111, hl111⟩ := hW.open_12 hb_13
                                        obtain ⟨v112, hv112, hc112⟩ : ∃ v : Nat, fs111[15]? = some (.int (nI v) : Value) ∧ v ≤ 20 := hl111 15 (by decide)
                                        refine pg_getN (D := D) (ci := 12) (v := .int (nI v112)) (C := RX12) (T := TX12) (N := 51) hx hb hg inG12 hown hK hP hb_13.1 hM111 rfl 15 (by decide) (hN.use (Cond.fieldLinkNest RX13 279 RX12 "mends" "I" RX13) 24 rfl rfl) (fun _ h9 => h9) hv112 dX13_close_281 ?_
                                        refine lv_icmp_ge (tgt := 300) hx hb dX13_close_284 (by decide) (fun c_113 => ?_) (fun c_113 => ?_)
                                        · have hz := rfl (a := 0)
                                          have n_114 : v112 ≤ v7w105 := (iLE (a := v112) (b := v7w105) (by omega) (by omega)).mp c_113
                                          refine lv_aload_n hx hb dX13_close_300 rfl (lv_at hl 5 rfl) ?_
                                          refine lv_iload_n hx hb dX13_close_301 rfl (lv_at hl 4 rfl) ?_
                                          refine lv_iload hx hb dX13_close_302 (lv_at hl 3 rfl) ?_
                                          have hPc : va_P D vwCl ([] ++ va_pl L M_109) H_110 := hP.part (cx := []) [] rfl
                                          have hDc : va_D A ([] ++ va_pl L M_109) := hD.part (cx := []) [] (by decide) rfl
                                          have hFc : ∀ q, va_A ([] ++ va_pl L M_109) H_110.size q → A q := pg_free hDc hS hA
                                          refine va_callv (va_runS (As := [.ref b11, .int 0, .int (nI c_31)]) (rest := []) ⟨hx, hb, hml, hown, hg⟩ (r_settled2 l D cy K L M_109 H_110.size b11 0 (nI c_31)  hW hb_13 hV.2.2.2) (va_cwS 3 hg (gS wd_861 wd_862 wd_717 wd_863) rfl rfl rfl (by decide +kernel) ⟨(Nat.le_trans (Nat.le_of_ble_eq_true rfl) hRf), (Nat.le_trans (Nat.le_of_ble_eq_true rfl) hRl)⟩) ⟨PG.blind, fun U hU hW => ⟨rfl, PG.at hPc hK hDc hN hU hW⟩⟩ rfl rfl hl.1 rfl (lv_room (Nat.le_of_ble_eq_true rfl)) dX13_close_304 ⟨(Nat.le_trans (Nat.le_of_ble_eq_true rfl) hRc), (Nat.le_trans (Nat.le_of_ble_eq_true rfl) hRs)⟩) hS (fun q _ h => hFc q h) hFc (fun M_117 t H_115 locs ht hvm hw hB hz1 hk1 hS => ?_)
                                          have hWb := hW
                                          obtain ⟨hW, hF2, hG2, hVP, hp_118⟩ := hw
                                          obtain ⟨hP1, hD1⟩ := hB
                                          rw [ht] at hP1
                                          obtain ⟨hP, hD⟩ := va_joinP (X := [(za, .inr (13, [.int 0, .ref z1, .int (nI z2), .int (nI z3), .int z4, .int z5, .ref z6, .ref z7, .ref z8, .ref z9, .int (nI z10), .ref z11, .ref z12, .ref z13, .ref z14, .ref z15, .int (nI zgw105), .ref z17, .int z18, .ref z19]))]) (cx := []) (wr := [(za, .inr (13, [.int 0, .ref z1, .int (nI z2), .int (nI z3), .int z4, .int z5, .ref z6, .ref z7, .ref z8, .ref z9, .int (nI z10), .ref z11, .ref z12, .ref z13, .ref z14, .ref z15, .int (nI zgw105), .ref z17, .int z18, .ref z19]))]) (rx := []) (pl := va_pl L M_109) (pl1 := va_pl L M_117) hP hD [] [0] rfl rfl (by decide) (by decide) hk1 hFc hP1 hD1
                                          have hP : va_P D vwCl ([(za, .inr (13, [.int 0, .ref z1, .int (nI z2), .int (nI z3), .int z4, .int z5, .ref z6, .ref z7, .ref z8, .ref z9, .int (nI z10), .ref z11, .ref z12, .ref z13, .ref z14, .ref z15, .int (nI zgw105), .ref z17, .int z18, .ref z19]))] ++ va_pl L M_117) H_115 := hP
                                          have hD : va_D A ([(za, .inr (13, [.int 0, .ref z1, .int (nI z2), .int (nI z3), .int z4, .int z5, .ref z6, .ref z7, .ref z8, .ref z9, .int (nI z10), .ref z11, .ref z12, .ref z13, .ref z14, .ref z15, .int (nI zgw105), .ref z17, .int z18, .ref z19]))] ++ va_pl L M_117) := hD
                                          obtain ⟨fs119, hM119, hn119, hl119⟩ := hW.open_12 hb_13
                                          have hv_120 : fs119[15]? = some (.int (nI v112) : Value) := (hG2 _ hb_13 _ _ hM111 hM119 15 (by decide)).trans hv112
                                          have hF : fr K L [12, 14, 15, 32, 42, 45, 46, 79, 80, 81, 83] M M_117 := hF.tr hF2 (by decide)
                                          have hG : fG K L [1, 7, 8, 13, 14, 15, 16, 17, 18] M M_117 := hG.tr hWb hG2 (by decide)
                                          obtain ⟨n_121, p_122, q_123, r_124, n_125, h8, hle8, htr8, hV2⟩ := hVP
                                          rw [hV.2.1] at h8
                                          rw [hV.2.2.1] at htr8
                                          rw [hV.2.1, hV.2.2.1] at hV2
                                          have hn14 : (0 : Int) ≤ ((n_121 : Nat) : Int) := by omega
                                          have hV : VW K L M M_117 b11 (va_up (va_up (fx M b11) 17 ((gnw105 : Nat) : Int)) 14 ((n_121 : Nat) : Int)) (va_up (va_up (va_up (va_up (va_up (ax M b11) 44 gpw105) 45 gqw105) 38 p_122) 39 q_123) 40 r_124) := hV.tr hV2
                                          refine lv_aload_n hx hb dX13_close_307 rfl (lv_at hl 5 rfl) ?_
                                          refine lv_lconst (v := 0) hx hb dX13_close_308 (by decide) ?_
                                          refine pg_putN (D := D) (ci := 12) (v := .long 0) (ty := .long) (C := RX12) (T := TX12) (N := 51) hx hb hg inG12 tyX12 tyX12_ok nmX12 hown hK hP hD hS hb_13.1 hM119 rfl 7 (by decide) (hN.use (Cond.fieldLinkNest RX13 179 RX12 "loose" "J" RX13) 16 rfl rfl) (fun _ h9 => h9) rfl (by decide +kernel) rfl rfl (by rw [hn119]; decide) dX13_close_309 (fun H_126 locs hP hD hS => ?_)
                                          have hs_129 : (fs119.set 7 (.long 0))[7]? = some (.long 0) := List.getElem?_set_self (by rw [hn119]; decide)
                                          have hk_128 := fld12_set (k := 7) (w := .long 0) hl119 (show fld12 K L 7 (fs119.set 7 (.long 0)) from ⟨0, hs_129⟩)
                                          have hn_130 : (fs119.set 7 (.long 0)).length = 51 := by rw [List.length_set]; exact hn119
                                          have hv_131 : (fs119.set 7 (.long 0))[15]? = some (.int (nI v112)) := by rw [List.getElem?_set_ne (by decide)]; exact hv_120
                                          obtain ⟨M_132, eM_132⟩ : ∃ M1 : Hp, M1 = va_up M_117 b11 (.inr (12, fs119.set 7 (.long 0))) := ⟨_, rfl⟩
                                          have hV : VW K L M M_132 b11 (va_up (va_up (fx M b11) 17 ((gnw105 : Nat) : Int)) 14 ((n_121 : Nat) : Int)) (va_up (va_up (va_up (va_up (va_up (ax M b11) 44 gpw105) 45 gqw105) 38 p_122) 39 q_123) 40 r_124) := by rw [eM_132]; exact hV.put0 hW hb_13 hM119 rfl rfl
                                          have hP : va_P D vwCl ([(za, .inr (13, [.int 0, .ref z1, .int (nI z2), .int (nI z3), .int z4, .int z5, .ref z6, .ref z7, .ref z8, .ref z9, .int (nI z10), .ref z11, .ref z12, .ref z13, .ref z14, .ref z15, .int (nI zgw105), .ref z17, .int z18, .ref z19]))] ++ va_pl L M_132) H_126 := by rw [eM_132]; exact hP
                                          have hD : va_D A ([(za, .inr (13, [.int 0, .ref z1, .int (nI z2), .int (nI z3), .int z4, .int z5, .ref z6, .ref z7, .ref z8, .ref z9, .int (nI z10), .ref z11, .ref z12, .ref z13, .ref z14, .ref z15, .int (nI zgw105), .ref z17, .int z18, .ref z19]))] ++ va_pl L M_132) := by rw [eM_132]; exact hD
                                          have hW : WOM cy K L M_132 := by rw [eM_132]; exact hW.up_12 hb_13 ⟨_, rfl, hn_130, hk_128⟩
                                          have hF : fr K L [12, 14, 15, 32, 42, 45, 46, 79, 80, 81, 83] M M_132 := by rw [eM_132]; exact hF.up hb_13 (by decide)
                                          have hG : fG K L [1, 7, 8, 13, 14, 15, 16, 17, 18] M M_132 := by rw [eM_132]; exact hG.up hM119 (by decide)
                                          have hM_133 : M_132 b11 = .inr (12, fs119.set 7 (.long 0)) := by rw [eM_132]; exact va_up_self _ _ _
                                          refine lv_aload_n hx hb dX13_close_312 rfl (lv_at hl 5 rfl) ?_
                                          refine lv_iconst (v := 0) hx hb dX13_close_313 (by decide) ?_
                                          refine pg_putN (D := D) (ci := 12) (v := .int 0) (ty := .int) (C := RX12) (T := TX12) (N := 51) hx hb hg inG12 tyX12 tyX12_ok nmX12 hown hK hP hD hS hb_13.1 hM_133 rfl 15 (by decide) (hN.use (Cond.fieldLinkNest RX13 279 RX12 "mends" "I" RX13) 24 rfl rfl) (fun _ h9 => h9) rfl (by decide +kernel) rfl rfl (by rw [hn_130]; decide) dX13_close_314 (fun H_134 locs hP hD hS => ?_)
                                          have hs_137 : ((fs119.set 7 (.long 0)).set 15 (.int 0))[15]? = some (.int (nI 0)) := List.getElem?_set_self (by rw [hn_130]; decide)
                                          have hk_136 := fld12_set (k := 15) (w := .int 0) hk_128 (show fld12 K L 15 ((fs119.set 7 (.long 0)).set 15 (.int 0)) from ⟨0, hs_137, by omega⟩)
                                          have hn_138 : ((fs119.set 7 (.long 0)).set 15 (.int 0)).length = 51 := by rw [List.length_set]; exact hn_130
                                          have hv_139 : ((fs119.set 7 (.long 0)).set 15 (.int 0))[7]? = some (.long 0) := by rw [List.getElem?_set_ne (by decide)]; exact hs_129
                                          have hb_140 : 0 ≤ 20 := by omega
                                          obtain ⟨M_141, eM_141⟩ : ∃ M1 : Hp, M1 = va_up M_132 b11 (.inr (12, (fs119.set 7 (.long 0)).set 15 (.int 0))) := ⟨_, rfl⟩
                                          have hx15 : (fx M b11 15) = ((v112 : Nat) : Int) := (congrFun hV.2.1 15).symm.trans ((fx_of hM_133 rfl hv_131).trans (nI_toInt (by omega)))
                                          have hV : VW K L M M_141 b11 (va_up (va_up (va_up (fx M b11) 17 ((gnw105 : Nat) : Int)) 14 ((n_121 : Nat) : Int)) 15 (0 : Int)) (va_up (va_up (va_up (va_up (va_up (ax M b11) 44 gpw105) 45 gqw105) 38 p_122) 39 q_123) 40 r_124) := by rw [eM_141]; exact hV.put hW hb_13 hM_133 hn_130 rfl (by decide) rfl (by decide)
                                          have hP : va_P D vwCl ([(za, .inr (13, [.int 0, .ref z1, .int (nI z2), .int (nI z3), .int z4, .int z5, .ref z6, .ref z7, .ref z8, .ref z9, .int (nI z10), .ref z11, .ref z12, .ref z13, .ref z14, .ref z15, .int (nI zgw105), .ref z17, .int z18, .ref z19]))] ++ va_pl L M_141) H_134 := by rw [eM_141]; exact hP
                                          have hD : va_D A ([(za, .inr (13, [.int 0, .ref z1, .int (nI z2), .int (nI z3), .int z4, .int z5, .ref z6, .ref z7, .ref z8, .ref z9, .int (nI z10), .ref z11, .ref z12, .ref z13, .ref z14, .ref z15, .int (nI zgw105), .ref z17, .int z18, .ref z19]))] ++ va_pl L M_141) := by rw [eM_141]; exact hD
                                          have hW : WOM cy K L M_141 := by rw [eM_141]; exact hW.up_12 hb_13 ⟨_, rfl, hn_138, hk_136⟩
                                          have hF : fr K L [12, 14, 15, 32, 42, 45, 46, 79, 80, 81, 83] M M_141 := by rw [eM_141]; exact hF.up hb_13 (by decide)
                                          have hG : fG K L [1, 7, 8, 13, 14, 15, 16, 17, 18] M M_141 := by rw [eM_141]; exact hG.up hM_133 (by decide)
                                          have hM_142 : M_141 b11 = .inr (12, (fs119.set 7 (.long 0)).set 15 (.int 0)) := by rw [eM_141]; exact va_up_self _ _ _
                                          refine lv_aload_n hx hb dX13_close_317 rfl (lv_at hl 5 rfl) ?_
                                          refine lv_iconst (v := 0) hx hb dX13_close_318 (by decide) ?_
                                          refine pg_putN (D := D) (ci := 12) (v := .int 0) (ty := .int) (C := RX12) (T := TX12) (N := 51) hx hb hg inG12 tyX12 tyX12_ok nmX12 hown hK hP hD hS hb_13.1 hM_142 rfl 16 (by decide) (hN.use (Cond.fieldLinkNest RX13 161 RX12 "undone" "I" RX13) 25 rfl rfl) (fun _ h9 => h9) rfl (by decide +kernel) rfl rfl (by rw [hn_138]; decide) dX13_close_319 (fun H_143 locs hP hD hS => ?_)
                                          have hs_146 : (((fs119.set 7 (.long 0)).set 15 (.int 0)).set 16 (.int 0))[16]? = some (.int (nI 0)) := List.getElem?_set_self (by rw [hn_138]; decide)
                                          have hk_145 := fld12_set (k := 16) (w := .int 0) hk_136 (show fld12 K L 16 (((fs119.set 7 (.long 0)).set 15 (.int 0)).set 16 (.int 0)) from ⟨0, hs_146, by omega⟩)
                                          have hn_147 : (((fs119.set 7 (.long 0)).set 15 (.int 0)).set 16 (.int 0)).length = 51 := by rw [List.length_set]; exact hn_138
                                          have hv_148 : (((fs119.set 7 (.long 0)).set 15 (.int 0)).set 16 (.int 0))[7]? = some (.long 0) := by rw [List.getElem?_set_ne (by decide)]; exact hv_139
                                          have hv_149 : (((fs119.set 7 (.long 0)).set 15 (.int 0)).set 16 (.int 0))[15]? = some (.int (nI 0)) := by rw [List.getElem?_set_ne (by decide)]; exact hs_137
                                          have hb_150 : 0 ≤ 60 := by omega
                                          obtain ⟨M_151, eM_151⟩ : ∃ M1 : Hp, M1 = va_up M_141 b11 (.inr (12, ((fs119.set 7 (.long 0)).set 15 (.int 0)).set 16 (.int 0))) := ⟨_, rfl⟩
                                          have hV : VW K L M M_151 b11 (va_up (va_up (va_up (va_up (fx M b11) 17 ((gnw105 : Nat) : Int)) 14 ((n_121 : Nat) : Int)) 15 (0 : Int)) 16 (0 : Int)) (va_up (va_up (va_up (va_up (va_up (ax M b11) 44 gpw105) 45 gqw105) 38 p_122) 39 q_123) 40 r_124) := by rw [eM_151]; exact hV.put hW hb_13 hM_142 hn_138 rfl (by decide) rfl (by decide)
                                          have hP : va_P D vwCl ([(za, .inr (13, [.int 0, .ref z1, .int (nI z2), .int (nI z3), .int z4, .int z5, .ref z6, .ref z7, .ref z8, .ref z9, .int (nI z10), .ref z11, .ref z12, .ref z13, .ref z14, .ref z15, .int (nI zgw105), .ref z17, .int z18, .ref z19]))] ++ va_pl L M_151) H_143 := by rw [eM_151]; exact hP
                                          have hD : va_D A ([(za, .inr (13, [.int 0, .ref z1, .int (nI z2), .int (nI z3), .int z4, .int z5, .ref z6, .ref z7, .ref z8, .ref z9, .int (nI z10), .ref z11, .ref z12, .ref z13, .ref z14, .ref z15, .int (nI zgw105), .ref z17, .int z18, .ref z19]))] ++ va_pl L M_151) := by rw [eM_151]; exact hD
                                          have hW : WOM cy K L M_151 := by rw [eM_151]; exact hW.up_12 hb_13 ⟨_, rfl, hn_147, hk_145⟩
                                          have hF : fr K L [12, 14, 15, 32, 42, 45, 46, 79, 80, 81, 83] M M_151 := by rw [eM_151]; exact hF.up hb_13 (by decide)
                                          have hG : fG K L [1, 7, 8, 13, 14, 15, 16, 17, 18] M M_151 := by rw [eM_151]; exact hG.up hM_142 (by decide)
                                          have hM_152 : M_151 b11 = .inr (12, ((fs119.set 7 (.long 0)).set 15 (.int 0)).set 16 (.int 0)) := by rw [eM_151]; exact va_up_self _ _ _
                                          refine lv_aload_n hx hb dX13_close_322 rfl (lv_at hl 5 rfl) ?_
                                          refine lv_iload hx hb dX13_close_323 (lv_at hl 3 rfl) ?_
                                          refine pg_putN (D := D) (ci := 12) (v := .int (nI c_31)) (ty := .int) (C := RX12) (T := TX12) (N := 51) hx hb hg inG12 tyX12 tyX12_ok nmX12 hown hK hP hD hS hb_13.1 hM_152 rfl 1 (by decide) (hN.use (Cond.fieldLinkNest RX13 80 RX12 "to" "I" RX13) 10 rfl rfl) (fun _ h9 => h9) rfl (by decide +kernel) rfl rfl (by rw [hn_147]; decide) dX13_close_325 (fun H_153 locs hP hD hS => ?_)
                                          have hs_156 : ((((fs119.set 7 (.long 0)).set 15 (.int 0)).set 16 (.int 0)).set 1 (.int (nI c_31)))[1]? = some (.int (nI c_31)) := List.getElem?_set_self (by rw [hn_147]; decide)
                                          have hk_155 := fld12_set (k := 1) (w := .int (nI c_31)) hk_145 (show fld12 K L 1 ((((fs119.set 7 (.long 0)).set 15 (.int 0)).set 16 (.int 0)).set 1 (.int (nI c_31))) from ⟨(nI c_31), hs_156, Or.inr ⟨c_31, by omega, rfl⟩⟩)
                                          have hn_157 : ((((fs119.set 7 (.long 0)).set 15 (.int 0)).set 16 (.int 0)).set 1 (.int (nI c_31))).length = 51 := by rw [List.length_set]; exact hn_147
                                          have hv_158 : ((((fs119.set 7 (.long 0)).set 15 (.int 0)).set 16 (.int 0)).set 1 (.int (nI c_31)))[7]? = some (.long 0) := by rw [List.getElem?_set_ne (by decide)]; exact hv_148
                                          have hv_159 : ((((fs119.set 7 (.long 0)).set 15 (.int 0)).set 16 (.int 0)).set 1 (.int (nI c_31)))[15]? = some (.int (nI 0)) := by rw [List.getElem?_set_ne (by decide)]; exact hv_149
                                          have hv_160 : ((((fs119.set 7 (.long 0)).set 15 (.int 0)).set 16 (.int 0)).set 1 (.int (nI c_31)))[16]? = some (.int (nI 0)) := by rw [List.getElem?_set_ne (by decide)]; exact hs_146
                                          obtain ⟨M_161, eM_161⟩ : ∃ M1 : Hp, M1 = va_up M_151 b11 (.inr (12, (((fs119.set 7 (.long 0)).set 15 (.int 0)).set 16 (.int 0)).set 1 (.int (nI c_31)))) := ⟨_, rfl⟩
                                          have hV : VW K L M M_161 b11 (va_up (va_up (va_up (va_up (va_up (fx M b11) 17 ((gnw105 : Nat) : Int)) 14 ((n_121 : Nat) : Int)) 15 (0 : Int)) 16 (0 : Int)) 1 ((c_31 : Nat) : Int)) (va_up (va_up (va_up (va_up (va_up (ax M b11) 44 gpw105) 45 gqw105) 38 p_122) 39 q_123) 40 r_124) := by rw [eM_161]; exact hV.put hW hb_13 hM_152 hn_147 rfl (by decide) rfl (nI_toInt (by omega))
                                          have hP : va_P D vwCl ([(za, .inr (13, [.int 0, .ref z1, .int (nI z2), .int (nI z3), .int z4, .int z5, .ref z6, .ref z7, .ref z8, .ref z9, .int (nI z10), .ref z11, .ref z12, .ref z13, .ref z14, .ref z15, .int (nI zgw105), .ref z17, .int z18, .ref z19]))] ++ va_pl L M_161) H_153 := by rw [eM_161]; exact hP
                                          have hD : va_D A ([(za, .inr (13, [.int 0, .ref z1, .int (nI z2), .int (nI z3), .int z4, .int z5, .ref z6, .ref z7, .ref z8, .ref z9, .int (nI z10), .ref z11, .ref z12, .ref z13, .ref z14, .ref z15, .int (nI zgw105), .ref z17, .int z18, .ref z19]))] ++ va_pl L M_161) := by rw [eM_161]; exact hD
                                          have hW : WOM cy K L M_161 := by rw [eM_161]; exact hW.up_12 hb_13 ⟨_, rfl, hn_157, hk_155⟩
                                          have hF : fr K L [12, 14, 15, 32, 42, 45, 46, 79, 80, 81, 83] M M_161 := by rw [eM_161]; exact hF.up hb_13 (by decide)
                                          have hG : fG K L [1, 7, 8, 13, 14, 15, 16, 17, 18] M M_161 := by rw [eM_161]; exact hG.up hM_152 (by decide)
                                          have hM_162 : M_161 b11 = .inr (12, (((fs119.set 7 (.long 0)).set 15 (.int 0)).set 16 (.int 0)).set 1 (.int (nI c_31))) := by rw [eM_161]; exact va_up_self _ _ _
                                          refine lv_aload_n hx hb dX13_close_328 rfl (lv_at hl 5 rfl) ?_
                                          refine lv_dup hx hb dX13_close_329 rfl ?_
                                          obtain ⟨v163, hv163, hc163⟩ : ∃ v : Nat, ((((fs119.set 7 (.long 0)).set 15 (.int 0)).set 16 (.int 0)).set 1 (.int (nI c_31)))[13]? = some (.int (nI v) : Value) ∧ v ≤ 12 := hk_155 13 (by decide)
                                          refine pg_getN (D := D) (ci := 12) (v := .int (nI v163)) (C := RX12) (T := TX12) (N := 51) hx hb hg inG12 hown hK hP hb_13.1 hM_162 rfl 13 (by decide) (hN.use (Cond.fieldLinkNest RX13 244 RX12 "closed" "I" RX13) 22 rfl rfl) (fun _ h9 => h9) hv163 dX13_close_330 ?_
                                          have hx13 : (fx M b11 13) = ((v163 : Nat) : Int) := (congrFun hV.2.1 13).symm.trans ((fx_of hM_162 rfl hv163).trans (nI_toInt (by omega)))
                                          refine lv_iconst (v := 1) hx hb dX13_close_333 (by decide) ?_
                                          refine lv_iadd hx hb dX13_close_334 ?_
                                          refine lv_topi (fun f_164 ef_164 => ?_)
                                          obtain rfl : f_164 = (nI (v163 + 1)) := ef_164.trans (nI_add v163 1)
                                          refine pg_putN (D := D) (ci := 12) (v := .int (nI (v163 + 1))) (ty := .int) (C := RX12) (T := TX12) (N := 51) hx hb hg inG12 tyX12 tyX12_ok nmX12 hown hK hP hD hS hb_13.1 hM_162 rfl 13 (by decide) (hN.use (Cond.fieldLinkNest RX13 244 RX12 "closed" "I" RX13) 22 rfl rfl) (fun _ h9 => h9) rfl (by decide +kernel) rfl rfl (by rw [hn_157]; decide) dX13_close_335 (fun H_165 locs hP hD hS => ?_)
                                          have hs_168 : (((((fs119.set 7 (.long 0)).set 15 (.int 0)).set 16 (.int 0)).set 1 (.int (nI c_31))).set 13 (.int (nI (v163 + 1))))[13]? = some (.int (nI (v163 + 1))) := List.getElem?_set_self (by rw [hn_157]; decide)
                                          have hk_167 := fld12_set (k := 13) (w := .int (nI (v163 + 1))) hk_155 (show fld12 K L 13 (((((fs119.set 7 (.long 0)).set 15 (.int 0)).set 16 (.int 0)).set 1 (.int (nI c_31))).set 13 (.int (nI (v163 + 1)))) from ⟨(v163 + 1), hs_168, by omega⟩)
                                          have hn_169 : (((((fs119.set 7 (.long 0)).set 15 (.int 0)).set 16 (.int 0)).set 1 (.int (nI c_31))).set 13 (.int (nI (v163 + 1)))).length = 51 := by rw [List.length_set]; exact hn_157
                                          have hv_170 : (((((fs119.set 7 (.long 0)).set 15 (.int 0)).set 16 (.int 0)).set 1 (.int (nI c_31))).set 13 (.int (nI (v163 + 1))))[7]? = some (.long 0) := by rw [List.getElem?_set_ne (by decide)]; exact hv_158
                                          have hv_171 : (((((fs119.set 7 (.long 0)).set 15 (.int 0)).set 16 (.int 0)).set 1 (.int (nI c_31))).set 13 (.int (nI (v163 + 1))))[15]? = some (.int (nI 0)) := by rw [List.getElem?_set_ne (by decide)]; exact hv_159
                                          have hv_172 : (((((fs119.set 7 (.long 0)).set 15 (.int 0)).set 16 (.int 0)).set 1 (.int (nI c_31))).set 13 (.int (nI (v163 + 1))))[16]? = some (.int (nI 0)) := by rw [List.getElem?_set_ne (by decide)]; exact hv_160
                                          have hv_173 : (((((fs119.set 7 (.long 0)).set 15 (.int 0)).set 16 (.int 0)).set 1 (.int (nI c_31))).set 13 (.int (nI (v163 + 1))))[1]? = some (.int (nI c_31)) := by rw [List.getElem?_set_ne (by decide)]; exact hs_156
                                          have hb_174 : (v163 + 1) ≤ 12 := by omega
                                          obtain ⟨M_175, eM_175⟩ : ∃ M1 : Hp, M1 = va_up M_161 b11 (.inr (12, ((((fs119.set 7 (.long 0)).set 15 (.int 0)).set 16 (.int 0)).set 1 (.int (nI c_31))).set 13 (.int (nI (v163 + 1))))) := ⟨_, rfl⟩
                                          have hx13 : (fx M b11 13) = ((v163 : Nat) : Int) := (congrFun hV.2.1 13).symm.trans ((fx_of hM_162 rfl hv163).trans (nI_toInt (by omega)))
                                          have hV : VW K L M M_175 b11 (va_up (va_up (va_up (va_up (va_up (va_up (fx M b11) 17 ((gnw105 : Nat) : Int)) 14 ((n_121 : Nat) : Int)) 15 (0 : Int)) 16 (0 : Int)) 1 ((c_31 : Nat) : Int)) 13 (((v163 + 1) : Nat) : Int)) (va_up (va_up (va_up (va_up (va_up (ax M b11) 44 gpw105) 45 gqw105) 38 p_122) 39 q_123) 40 r_124) := by rw [eM_175]; exact hV.put hW hb_13 hM_162 hn_157 rfl (by decide) rfl (nI_toInt (by omega))
                                          have hP : va_P D vwCl ([(za, .inr (13, [.int 0, .ref z1, .int (nI z2), .int (nI z3), .int z4, .int z5, .ref z6, .ref z7, .ref z8, .ref z9, .int (nI z10), .ref z11, .ref z12, .ref z13, .ref z14, .ref z15, .int (nI zgw105), .ref z17, .int z18, .ref z19]))] ++ va_pl L M_175) H_165 := by rw [eM_175]; exact hP
                                          have hD : va_D A ([(za, .inr (13, [.int 0, .ref z1, .int (nI z2), .int (nI z3), .int z4, .int z5, .ref z6, .ref z7, .ref z8, .ref z9, .int (nI z10), .ref z11, .ref z12, .ref z13, .ref z14, .ref z15, .int (nI zgw105), .ref z17, .int z18, .ref z19]))] ++ va_pl L M_175) := by rw [eM_175]; exact hD
                                          have hW : WOM cy K L M_175 := by rw [eM_175]; exact hW.up_12 hb_13 ⟨_, rfl, hn_169, hk_167⟩
                                          have hF : fr K L [12, 14, 15, 32, 42, 45, 46, 79, 80, 81, 83] M M_175 := by rw [eM_175]; exact hF.up hb_13 (by decide)
                                          have hG : fG K L [1, 7, 8, 13, 14, 15, 16, 17, 18] M M_175 := by rw [eM_175]; exact hG.up hM_162 (by decide)
                                          have hM_176 : M_175 b11 = .inr (12, ((((fs119.set 7 (.long 0)).set 15 (.int 0)).set 16 (.int 0)).set 1 (.int (nI c_31))).set 13 (.int (nI (v163 + 1)))) := by rw [eM_175]; exact va_up_self _ _ _
                                          refine lv_aload_n hx hb dX13_close_338 rfl (lv_at hl 5 rfl) ?_
                                          refine lv_iconst (v := 1) hx hb dX13_close_339 (by decide) ?_
                                          refine pg_putN (D := D) (ci := 12) (v := .int 1) (ty := .boolean) (C := RX12) (T := TX12) (N := 51) hx hb hg inG12 tyX12 tyX12_ok nmX12 hown hK hP hD hS hb_13.1 hM_176 rfl 18 (by decide) (hN.use (Cond.fieldLinkNest RX13 288 RX12 "hasClosed" "Z" RX13) 27 rfl rfl) (fun _ h9 => h9) rfl (by decide +kernel) rfl rfl (by rw [hn_169]; decide) dX13_close_340 (fun H_177 locs hP hD hS => ?_)
                                          have hs_180 : ((((((fs119.set 7 (.long 0)).set 15 (.int 0)).set 16 (.int 0)).set 1 (.int (nI c_31))).set 13 (.int (nI (v163 + 1)))).set 18 (.int 1))[18]? = some (.int 1) := List.getElem?_set_self (by rw [hn_169]; decide)
                                          have hk_179 := fld12_set (k := 18) (w := .int 1) hk_167 (show fld12 K L 18 ((((((fs119.set 7 (.long 0)).set 15 (.int 0)).set 16 (.int 0)).set 1 (.int (nI c_31))).set 13 (.int (nI (v163 + 1)))).set 18 (.int 1)) from ⟨1, hs_180, by decide⟩)
                                          have hn_181 : ((((((fs119.set 7 (.long 0)).set 15 (.int 0)).set 16 (.int 0)).set 1 (.int (nI c_31))).set 13 (.int (nI (v163 + 1)))).set 18 (.int 1)).length = 51 := by rw [List.length_set]; exact hn_169
                                          have hv_182 : ((((((fs119.set 7 (.long 0)).set 15 (.int 0)).set 16 (.int 0)).set 1 (.int (nI c_31))).set 13 (.int (nI (v163 + 1)))).set 18 (.int 1))[7]? = some (.long 0) := by rw [List.getElem?_set_ne (by decide)]; exact hv_170
                                          have hv_183 : ((((((fs119.set 7 (.long 0)).set 15 (.int 0)).set 16 (.int 0)).set 1 (.int (nI c_31))).set 13 (.int (nI (v163 + 1)))).set 18 (.int 1))[15]? = some (.int (nI 0)) := by rw [List.getElem?_set_ne (by decide)]; exact hv_171
                                          have hv_184 : ((((((fs119.set 7 (.long 0)).set 15 (.int 0)).set 16 (.int 0)).set 1 (.int (nI c_31))).set 13 (.int (nI (v163 + 1)))).set 18 (.int 1))[16]? = some (.int (nI 0)) := by rw [List.getElem?_set_ne (by decide)]; exact hv_172
                                          have hv_185 : ((((((fs119.set 7 (.long 0)).set 15 (.int 0)).set 16 (.int 0)).set 1 (.int (nI c_31))).set 13 (.int (nI (v163 + 1)))).set 18 (.int 1))[1]? = some (.int (nI c_31)) := by rw [List.getElem?_set_ne (by decide)]; exact hv_173
                                          have hv_186 : ((((((fs119.set 7 (.long 0)).set 15 (.int 0)).set 16 (.int 0)).set 1 (.int (nI c_31))).set 13 (.int (nI (v163 + 1)))).set 18 (.int 1))[13]? = some (.int (nI (v163 + 1))) := by rw [List.getElem?_set_ne (by decide)]; exact hs_168
                                          obtain ⟨M_187, eM_187⟩ : ∃ M1 : Hp, M1 = va_up M_175 b11 (.inr (12, (((((fs119.set 7 (.long 0)).set 15 (.int 0)).set 16 (.int 0)).set 1 (.int (nI c_31))).set 13 (.int (nI (v163 + 1)))).set 18 (.int 1))) := ⟨_, rfl⟩
                                          have hV : VW K L M M_187 b11 (va_up (va_up (va_up (va_up (va_up (va_up (va_up (fx M b11) 17 ((gnw105 : Nat) : Int)) 14 ((n_121 : Nat) : Int)) 15 (0 : Int)) 16 (0 : Int)) 1 ((c_31 : Nat) : Int)) 13 (((v163 + 1) : Nat) : Int)) 18 (1 : Int)) (va_up (va_up (va_up (va_up (va_up (ax M b11) 44 gpw105) 45 gqw105) 38 p_122) 39 q_123) 40 r_124) := by rw [eM_187]; exact hV.put hW hb_13 hM_176 hn_169 rfl (by decide) rfl (by decide)
                                          have hP : va_P D vwCl ([(za, .inr (13, [.int 0, .ref z1, .int (nI z2), .int (nI z3), .int z4, .int z5, .ref z6, .ref z7, .ref z8, .ref z9, .int (nI z10), .ref z11, .ref z12, .ref z13, .ref z14, .ref z15, .int (nI zgw105), .ref z17, .int z18, .ref z19]))] ++ va_pl L M_187) H_177 := by rw [eM_187]; exact hP
                                          have hD : va_D A ([(za, .inr (13, [.int 0, .ref z1, .int (nI z2), .int (nI z3), .int z4, .int z5, .ref z6, .ref z7, .ref z8, .ref z9, .int (nI z10), .ref z11, .ref z12, .ref z13, .ref z14, .ref z15, .int (nI zgw105), .ref z17, .int z18, .ref z19]))] ++ va_pl L M_187) := by rw [eM_187]; exact hD
                                          have hW : WOM cy K L M_187 := by rw [eM_187]; exact hW.up_12 hb_13 ⟨_, rfl, hn_181, hk_179⟩
                                          have hF : fr K L [12, 14, 15, 32, 42, 45, 46, 79, 80, 81, 83] M M_187 := by rw [eM_187]; exact hF.up hb_13 (by decide)
                                          have hG : fG K L [1, 7, 8, 13, 14, 15, 16, 17, 18] M M_187 := by rw [eM_187]; exact hG.up hM_176 (by decide)
                                          have hM_188 : M_187 b11 = .inr (12, (((((fs119.set 7 (.long 0)).set 15 (.int 0)).set 16 (.int 0)).set 1 (.int (nI c_31))).set 13 (.int (nI (v163 + 1)))).set 18 (.int 1)) := by rw [eM_187]; exact va_up_self _ _ _
                                          refine lv_aload_n hx hb dX13_close_343 rfl (lv_at hl 6 rfl) ?_
                                          refine lv_aload_n hx hb dX13_close_344 rfl (lv_at hl 5 rfl) ?_
                                          refine lv_iload hx hb dX13_close_345 (lv_at hl 3 rfl) ?_
                                          have hPc : va_P D vwCl ([(za, .inr (13, [.int 0, .ref z1, .int (nI z2), .int (nI z3), .int z4, .int z5, .ref z6, .ref z7, .ref z8, .ref z9, .int (nI z10), .ref z11, .ref z12, .ref z13, .ref z14, .ref z15, .int (nI zgw105), .ref z17, .int z18, .ref z19]))] ++ va_pl L M_187) H_177 := hP
                                          have hDc : va_D A ([(za, .inr (13, [.int 0, .ref z1, .int (nI z2), .int (nI z3), .int z4, .int z5, .ref z6, .ref z7, .ref z8, .ref z9, .int (nI z10), .ref z11, .ref z12, .ref z13, .ref z14, .ref z15, .int (nI zgw105), .ref z17, .int z18, .ref z19]))] ++ va_pl L M_187) := hD
                                          have hFc : ∀ q, va_A ([(za, .inr (13, [.int 0, .ref z1, .int (nI z2), .int (nI z3), .int z4, .int z5, .ref z6, .ref z7, .ref z8, .ref z9, .int (nI z10), .ref z11, .ref z12, .ref z13, .ref z14, .ref z15, .int (nI zgw105), .ref z17, .int z18, .ref z19]))] ++ va_pl L M_187) H_177.size q → A q := pg_free hDc hS hA
                                          refine va_callv (va_runV (As := [.ref b11, .int (nI c_31)]) (rest := []) ⟨hx, hb, hml, hown, hg⟩ (g_X13_incomes l D cy K L M_187 H_177.size za 0 z1 z2 z3 z4 z5 z6 z7 z8 z9 z10 z11 z12 z13 z14 z15 zgw105 z17 z18 z19 b11 c_31  hW i1 b2 b3 i6 i7 i8 i9 b10 i11 i12 i13 i14 i15 (by omega) i17 i19 hb_13 hc_32 (R5.mv hR5 i6 i7 hF (by decide) (by decide))) (cwV 2 hg (gV wd_864 wd_865 wd_866 wd_717 wd_867) rfl rfl rfl (by decide +kernel) ⟨(Nat.le_trans (Nat.le_of_ble_eq_true rfl) hRf), (Nat.le_trans (Nat.le_of_ble_eq_true rfl) hRl)⟩) ⟨PG.blind, va_recv hK hP (ci := 13) (q0 := 0) rfl rfl, fun U hU hW => ⟨rfl, PG.at hPc hK hDc hN hU hW⟩⟩ rfl rfl hl.1 rfl (lv_room (Nat.le_of_ble_eq_true rfl)) dX13_close_347 ⟨(Nat.le_trans (Nat.le_of_ble_eq_true rfl) hRc), (Nat.le_trans (Nat.le_of_ble_eq_true rfl) hRs)⟩) hS (fun q _ h => hFc q h) hFc (fun M_191 t H_189 locs ht hvm hw hB hz1 hk1 hS => ?_)
                                          have hWb := hW
                                          obtain ⟨hW, hF2, hG2, hp_192⟩ := hw
                                          obtain ⟨hP1, hD1⟩ := hB
                                          rw [ht] at hP1
                                          have hP : va_P D vwCl ([(za, .inr (13, [.int 0, .ref z1, .int (nI z2), .int (nI z3), .int z4, .int z5, .ref z6, .ref z7, .ref z8, .ref z9, .int (nI z10), .ref z11, .ref z12, .ref z13, .ref z14, .ref z15, .int (nI zgw105), .ref z17, .int z18, .ref z19]))] ++ va_pl L M_191) H_189 := hP1
                                          have hD : va_D A ([(za, .inr (13, [.int 0, .ref z1, .int (nI z2), .int (nI z3), .int z4, .int z5, .ref z6, .ref z7, .ref z8, .ref z9, .int (nI z10), .ref z11, .ref z12, .ref z13, .ref z14, .ref z15, .int (nI zgw105), .ref z17, .int z18, .ref z19]))] ++ va_pl L M_191) := hD1.mono hFc
                                          obtain ⟨fs193, hM193, hn193, hl193⟩ := hW.open_12 hb_13
                                          have hv_194 : fs193[15]? = some (.int (nI 0) : Value) := (hG2 _ hb_13 _ _ hM_188 hM193 15 (by decide)).trans hv_183
                                          have hv_195 : fs193[16]? = some (.int (nI 0) : Value) := (hG2 _ hb_13 _ _ hM_188 hM193 16 (by decide)).trans hv_184
                                          have hv_196 : fs193[1]? = some (.int (nI c_31) : Value) := (hG2 _ hb_13 _ _ hM_188 hM193 1 (by decide)).trans hv_185
                                          have hv_197 : fs193[13]? = some (.int (nI (v163 + 1)) : Value) := (hG2 _ hb_13 _ _ hM_188 hM193 13 (by decide)).trans hv_186
                                          have hv_198 : fs193[18]? = some (.int 1 : Value) := (hG2 _ hb_13 _ _ hM_188 hM193 18 (by decide)).trans hs_180
                                          have hF : fr K L [12, 14, 15, 32, 42, 45, 46, 79, 80, 81, 83] M M_191 := hF.tr hF2 (by decide)
                                          have hG : fG K L [1, 7, 8, 13, 14, 15, 16, 17, 18] M M_191 := hG.tr hWb hG2 (by decide)
                                          have hV : VW K L M M_191 b11 (va_up (va_up (va_up (va_up (va_up (va_up (va_up (fx M b11) 17 ((gnw105 : Nat) : Int)) 14 ((n_121 : Nat) : Int)) 15 (0 : Int)) 16 (0 : Int)) 1 ((c_31 : Nat) : Int)) 13 (((v163 + 1) : Nat) : Int)) 18 (1 : Int)) (va_up (va_up (va_up (va_up (va_up (ax M b11) 44 gpw105) 45 gqw105) 38 p_122) 39 q_123) 40 r_124) := hV.cal hWb hW hF2 hG2 (by decide) (by decide) hb_13
                                          refine lv_aload_n hx hb dX13_close_350 rfl (lv_at hl 5 rfl) ?_
                                          refine lv_iload hx hb dX13_close_351 (lv_at hl 3 rfl) ?_
                                          have hPc : va_P D vwCl ([] ++ va_pl L M_191) H_189 := hP.part (cx := []) [] rfl
                                          have hDc : va_D A ([] ++ va_pl L M_191) := hD.part (cx := []) [] (by decide) rfl
                                          have hFc : ∀ q, va_A ([] ++ va_pl L M_191) H_189.size q → A q := pg_free hDc hS hA
                                          refine va_callv (va_runS (As := [.ref b11, .int (nI c_31)]) (rest := []) ⟨hx, hb, hml, hown, hg⟩ (g_X13_ends l D cy K L M_191 H_189.size b11 (nI c_31)  hW hb_13 hV.2.2.2 (by rw [hV.2.1, hV.2.2.1]; exact hAT.2.2.1)) (va_cwS 2 hg (gS wd_868 wd_869 wd_717 wd_870) rfl rfl rfl (by decide +kernel) ⟨(Nat.le_trans (Nat.le_of_ble_eq_true rfl) hRf), (Nat.le_trans (Nat.le_of_ble_eq_true rfl) hRl)⟩) ⟨PG.blind, fun U hU hW => ⟨rfl, PG.at hPc hK hDc hN hU hW⟩⟩ rfl rfl hl.1 rfl (lv_room (Nat.le_of_ble_eq_true rfl)) dX13_close_353 ⟨(Nat.le_trans (Nat.le_of_ble_eq_true rfl) hRc), (Nat.le_trans (Nat.le_of_ble_eq_true rfl) hRs)⟩) hS (fun q _ h => hFc q h) hFc (fun M_201 t H_199 locs ht hvm hw hB hz1 hk1 hS => ?_)
                                          have hWb := hW
                                          obtain ⟨hW, hF2, hG2, hVP, hp_202⟩ := hw
                                          obtain ⟨hP1, hD1⟩ := hB
                                          rw [ht] at hP1
                                          obtain ⟨hP, hD⟩ := va_joinP (X := [(za, .inr (13, [.int 0, .ref z1, .int (nI z2), .int (nI z3), .int z4, .int z5, .ref z6, .ref z7, .ref z8, .ref z9, .int (nI z10), .ref z11, .ref z12, .ref z13, .ref z14, .ref z15, .int (nI zgw105), .ref z17, .int z18, .ref z19]))]) (cx := []) (wr := [(za, .inr (13, [.int 0, .ref z1, .int (nI z2), .int (nI z3), .int z4, .int z5, .ref z6, .ref z7, .ref z8, .ref z9, .int (nI z10), .ref z11, .ref z12, .ref z13, .ref z14, .ref z15, .int (nI zgw105), .ref z17, .int z18, .ref z19]))]) (rx := []) (pl := va_pl L M_191) (pl1 := va_pl L M_201) hP hD [] [0] rfl rfl (by decide) (by decide) hk1 hFc hP1 hD1
                                          have hP : va_P D vwCl ([(za, .inr (13, [.int 0, .ref z1, .int (nI z2), .int (nI z3), .int z4, .int z5, .ref z6, .ref z7, .ref z8, .ref z9, .int (nI z10), .ref z11, .ref z12, .ref z13, .ref z14, .ref z15, .int (nI zgw105), .ref z17, .int z18, .ref z19]))] ++ va_pl L M_201) H_199 := hP
                                          have hD : va_D A ([(za, .inr (13, [.int 0, .ref z1, .int (nI z2), .int (nI z3), .int z4, .int z5, .ref z6, .ref z7, .ref z8, .ref z9, .int (nI z10), .ref z11, .ref z12, .ref z13, .ref z14, .ref z15, .int (nI zgw105), .ref z17, .int z18, .ref z19]))] ++ va_pl L M_201) := hD
                                          have hM_203 : M_201 b11 = .inr (12, fs193) := (hF2.at hb_13 (by decide)).trans hM193
                                          have hF : fr K L [12, 14, 15, 32, 42, 45, 46, 79, 80, 81, 83] M M_201 := hF.tr hF2 (by decide)
                                          have hG : fG K L [1, 7, 8, 13, 14, 15, 16, 17, 18] M M_201 := hG.tr hWb hG2 (by decide)
                                          obtain ⟨g_204, hg9, hV2⟩ := hVP
                                          rw [hV.2.2.1] at hg9
                                          rw [hV.2.1, hV.2.2.1] at hV2
                                          have hg9 : ∀ k : Nat, k < 24 → 1 ≤ ((ax M b11 23) k).toInt → 1 ≤ (g_204 k).toInt := hg9
                                          have hV : VW K L M M_201 b11 (va_up (va_up (va_up (va_up (va_up (va_up (va_up (fx M b11) 17 ((gnw105 : Nat) : Int)) 14 ((n_121 : Nat) : Int)) 15 (0 : Int)) 16 (0 : Int)) 1 ((c_31 : Nat) : Int)) 13 (((v163 + 1) : Nat) : Int)) 18 (1 : Int)) (va_up (va_up (va_up (va_up (va_up (va_up (ax M b11) 44 gpw105) 45 gqw105) 38 p_122) 39 q_123) 40 r_124) 23 g_204) := hV.tr hV2
                                          refine lv_aload_n hx hb dX13_close_356 rfl (lv_at hl 6 rfl) ?_
                                          refine lv_aload_n hx hb dX13_close_357 rfl (lv_at hl 5 rfl) ?_
                                          refine pg_getN (D := D) (ci := 12) (v := .int (nI (v163 + 1))) (C := RX12) (T := TX12) (N := 51) hx hb hg inG12 hown hK hP hb_13.1 hM_203 rfl 13 (by decide) (hN.use (Cond.fieldLinkNest RX13 244 RX12 "closed" "I" RX13) 22 rfl rfl) (fun _ h9 => h9) hv_197 dX13_close_358 ?_
                                          have hx13 : (((v163 + 1) : Nat) : Int) = (((v163 + 1) : Nat) : Int) := (congrFun hV.2.1 13).symm.trans ((fx_of hM_203 rfl hv_197).trans (nI_toInt (by omega)))
                                          refine lv_iconst (v := 1) hx hb dX13_close_361 (by decide) ?_
                                          refine lv_isub hx hb dX13_close_362 ?_
                                          refine lv_topi (fun f_205 ef_205 => ?_)
                                          obtain rfl : f_205 = (nI ((v163 + 1) - 1)) := ef_205.trans (nI_prd (by omega))
                                          have hPc := hP.sub (ws' := [(za, .inr (13, [.int 0, .ref z1, .int (nI z2), .int (nI z3), .int z4, .int z5, .ref z6, .ref z7, .ref z8, .ref z9, .int (nI z10), .ref z11, .ref z12, .ref z13, .ref z14, .ref z15, .int (nI zgw105), .ref z17, .int z18, .ref z19]))]) [0] rfl
                                          have hDc := hD.sub (ws' := [(za, .inr (13, [.int 0, .ref z1, .int (nI z2), .int (nI z3), .int z4, .int z5, .ref z6, .ref z7, .ref z8, .ref z9, .int (nI z10), .ref z11, .ref z12, .ref z13, .ref z14, .ref z15, .int (nI zgw105), .ref z17, .int z18, .ref z19]))]) [0] (by decide) rfl
                                          have hKc := hK.sub (tys' := []) [] rfl
                                          have hFc := va_free (wc := [(za, .inr (13, [.int 0, .ref z1, .int (nI z2), .int (nI z3), .int z4, .int z5, .ref z6, .ref z7, .ref z8, .ref z9, .int (nI z10), .ref z11, .ref z12, .ref z13, .ref z14, .ref z15, .int (nI zgw105), .ref z17, .int z18, .ref z19]))]) hD hS hA [0] rfl
                                          refine va_calli (va_runV (As := [.int (nI ((v163 + 1) - 1))]) (rest := []) ⟨hx, hb, hml, hown, hg⟩ (m_done l D H_199.size za 0 z1 (nI z2) (nI z3) z4 z5 z6 z7 z8 z9 (nI z10) z11 z12 z13 z14 z15 (nI zgw105) z17 z18 z19 (nI ((v163 + 1) - 1))) (cwV 1 hg (gV wd_730 wd_731 wd_732 wd_717 wd_733) rfl rfl rfl (by decide +kernel) ⟨(Nat.le_trans (Nat.le_of_ble_eq_true rfl) hRf), (Nat.le_trans (Nat.le_of_ble_eq_true rfl) hRl)⟩) ⟨Pr.blind, va_recv hK hP (ci := 13) (q0 := 0) rfl rfl, fun U hU hW => ⟨rfl, Pr.at hPc hKc hDc hN hU hW⟩⟩ rfl rfl hl.1 rfl (lv_room (Nat.le_of_ble_eq_true rfl)) dX13_close_363 ⟨(Nat.le_trans (Nat.le_of_ble_eq_true rfl) hRc), (Nat.le_trans (Nat.le_of_ble_eq_true rfl) hRs)⟩) hS (fun q _ h => hFc q h) hFc (fun r_207 M_208 t H_206 locs ht hvm hw hB hz1 hk1 hS => ?_)
                                          have hp_209 := hw
                                          obtain ⟨hP1, hK1, hD1⟩ := hB
                                          rw [ht] at hP1
                                          obtain ⟨hP, hD⟩ := va_joinQ (X := [(za, .inr (13, [.int 0, .ref z1, .int (nI z2), .int (nI z3), .int z4, .int z5, .ref z6, .ref z7, .ref z8, .ref z9, .int (nI z10), .ref z11, .ref z12, .ref z13, .ref z14, .ref z15, .int (nI zgw105), .ref z17, .int z18, .ref z19]))]) (cx := [(za, .inr (13, [.int 0, .ref z1, .int (nI z2), .int (nI z3), .int z4, .int z5, .ref z6, .ref z7, .ref z8, .ref z9, .int (nI z10), .ref z11, .ref z12, .ref z13, .ref z14, .ref z15, .int (nI zgw105), .ref z17, .int z18, .ref z19]))]) (wr := []) (w1 := [(za, .inr (13, [.int 0, .ref z1, .int (nI z2), .int (nI z3), .int 0, .int (-1), .ref z6, .ref z7, .ref z8, .ref z9, .int (nI z10), .ref z11, .ref z12, .ref z13, .ref z14, .ref z15, .int (nI zgw105), .ref z17, .int z18, .ref z19]))]) (pl := va_pl L M_201) hP hD [0] [] rfl rfl (by decide) (by decide) hk1 hFc hP1 hD1
                                          have hP : va_P D vwCl ([(za, .inr (13, [.int 0, .ref z1, .int (nI z2), .int (nI z3), .int 0, .int (-1), .ref z6, .ref z7, .ref z8, .ref z9, .int (nI z10), .ref z11, .ref z12, .ref z13, .ref z14, .ref z15, .int (nI zgw105), .ref z17, .int z18, .ref z19]))] ++ va_pl L M_201) H_206 := hP
                                          have hD : va_D A ([(za, .inr (13, [.int 0, .ref z1, .int (nI z2), .int (nI z3), .int 0, .int (-1), .ref z6, .ref z7, .ref z8, .ref z9, .int (nI z10), .ref z11, .ref z12, .ref z13, .ref z14, .ref z15, .int (nI zgw105), .ref z17, .int z18, .ref z19]))] ++ va_pl L M_201) := hD
                                          have hq := Eq.symm hp_209
                                          subst hq
                                          have hA9 : HA (ax M b11 2) (ax M b11 3) := hAT.1
                                          have hB9 : HB (0 : Int) ((n_121 : Nat) : Int) (ax M b11 3) (ax M b11 43) := HB.zero hAT.2.1.nn.1 hn14
                                          have hC9 : HC (fx M b11 10) (ax M b11 22) g_204 := HC.gr hAT.2.2.1 hg9
                                          have hD9 : HD (fx M b11 0) (fx M b11 11) (0 : Int) (ax M b11 34) (ax M b11 41) := HD.clr hAT.2.2.2.1
                                          have hE9 : HE (fx M b11 0) ((c_31 : Nat) : Int) (fx M b11 12) (((v163 + 1) : Nat) : Int) (ax M b11 37) := HE.close hAT.2.2.2.2 hb13 (by omega) (by omega) (by rw [hT37])
                                          have hH9 : HI (va_up (va_up (va_up (va_up (va_up (va_up (va_up (fx M b11) 17 ((gnw105 : Nat) : Int)) 14 ((n_121 : Nat) : Int)) 15 (0 : Int)) 16 (0 : Int)) 1 ((c_31 : Nat) : Int)) 13 (((v163 + 1) : Nat) : Int)) 18 (1 : Int)) (va_up (va_up (va_up (va_up (va_up (va_up (ax M b11) 44 gpw105) 45 gqw105) 38 p_122) 39 q_123) 40 r_124) 23 g_204) := ⟨hA9, hB9, hC9, hD9, hE9⟩
                                          have hGI9 : GI K L z1 z2 M_201 := GI.fin hW0 i1 b2 hGI hact hV (hF.at i1 (by decide)) hH9
                                          rw [hQ]
                                          exact W.iret (v := (nI ((v163 + 1) - 1))) hx hb hr (fun t ht hW9 => ⟨⟨(nI ((v163 + 1) - 1)), M_201, rfl, ⟨hW, hF, hG, hGI9, trivial⟩, ⟨0, (-1), zgw105, (by omega), by rw [ht]; exact hP, hD⟩⟩, hS.F ht⟩) hS.2.2 dX13_close_366
                                        · have hz := rfl (a := 0)
                                          have n_210 : ¬ (v112 ≤ v7w105) := fun q => c_113 ((iLE (a := v112) (b := v7w105) (by omega) (by omega)).mpr q)
                                          obtain ⟨v211, hv211, hc211⟩ : ∃ v : Nat, fs111[17]? = some (.int (nI v) : Value) ∧ v ≤ 120 := hl111 17 (by decide)
                                          have hx17 : ((gnw105 : Nat) : Int) = ((v211 : Nat) : Int) := (congrFun hV.2.1 17).symm.trans ((fx_of hM111 rfl hv211).trans (nI_toInt (by omega)))
                                          have hx15 : (fx M b11 15) = ((v112 : Nat) : Int) := (congrFun hV.2.1 15).symm.trans ((fx_of hM111 rfl hv112).trans (nI_toInt (by omega)))
                                          refine lv_aload_n hx hb dX13_close_287 rfl (lv_at hl 6 rfl) ?_
                                          refine lv_aload_n hx hb dX13_close_288 rfl (lv_at hl 5 rfl) ?_
                                          refine lv_iload hx hb dX13_close_289 (lv_at hl 0 rfl) ?_
                                          have hPc : va_P D vwCl ([(za, .inr (13, [.int 0, .ref z1, .int (nI z2), .int (nI z3), .int z4, .int z5, .ref z6, .ref z7, .ref z8, .ref z9, .int (nI z10), .ref z11, .ref z12, .ref z13, .ref z14, .ref z15, .int (nI zgw105), .ref z17, .int z18, .ref z19]))] ++ va_pl L M_109) H_110 := hP
                                          have hDc : va_D A ([(za, .inr (13, [.int 0, .ref z1, .int (nI z2), .int (nI z3), .int z4, .int z5, .ref z6, .ref z7, .ref z8, .ref z9, .int (nI z10), .ref z11, .ref z12, .ref z13, .ref z14, .ref z15, .int (nI zgw105), .ref z17, .int z18, .ref z19]))] ++ va_pl L M_109) := hD
                                          have hFc : ∀ q, va_A ([(za, .inr (13, [.int 0, .ref z1, .int (nI z2), .int (nI z3), .int z4, .int z5, .ref z6, .ref z7, .ref z8, .ref z9, .int (nI z10), .ref z11, .ref z12, .ref z13, .ref z14, .ref z15, .int (nI zgw105), .ref z17, .int z18, .ref z19]))] ++ va_pl L M_109) H_110.size q → A q := pg_free hDc hS hA
                                          refine va_callv (va_runV (As := [.ref b11, .int (nI v7w105)]) (rest := []) ⟨hx, hb, hml, hown, hg⟩ (g_X13_mended l D cy K L M_109 H_110.size za 0 z1 z2 z3 z4 z5 z6 z7 z8 z9 z10 z11 z12 z13 z14 z15 zgw105 z17 z18 z19 b11 v7w105  hW i1 b2 b3 i6 i7 i8 i9 b10 i11 i12 i13 i14 i15 (by omega) i17 i19 hb_13 (by omega) hV.2.2.2 ⟨_, _, hM111, hv211, by omega⟩ (by rw [hV.2.1]; exact h11) (by rw [hV.2.1, hV.2.2.1]; exact hAT.2.2.2.1) (by rw [hV.2.1]; show ((v7w105 : Nat) : Int) < fx M b11 15; omega)) (cwV 2 hg (gV wd_871 wd_872 wd_873 wd_717 wd_874) rfl rfl rfl (by decide +kernel) ⟨(Nat.le_trans (Nat.le_of_ble_eq_true rfl) hRf), (Nat.le_trans (Nat.le_of_ble_eq_true rfl) hRl)⟩) ⟨PG.blind, va_recv hK hP (ci := 13) (q0 := 0) rfl rfl, fun U hU hW => ⟨rfl, PG.at hPc hK hDc hN hU hW⟩⟩ rfl rfl hl.1 rfl (lv_room (Nat.le_of_ble_eq_true rfl)) dX13_close_291 ⟨(Nat.le_trans (Nat.le_of_ble_eq_true rfl) hRc), (Nat.le_trans (Nat.le_of_ble_eq_true rfl) hRs)⟩) hS (fun q _ h => hFc q h) hFc (fun M_214 t H_212 locs ht hvm hw hB hz1 hk1 hS => ?_)
                                          have hWb := hW
                                          obtain ⟨hW, hF2, hG2, hVP, hp_215⟩ := hw
                                          obtain ⟨w16_216, hg_217, hP1, hD1⟩ := hB
                                          rw [ht] at hP1
                                          have hP : va_P D vwCl ([(za, .inr (13, [.int 0, .ref z1, .int (nI z2), .int (nI z3), .int z4, .int z5, .ref z6, .ref z7, .ref z8, .ref z9, .int (nI z10), .ref z11, .ref z12, .ref z13, .ref z14, .ref z15, .int (nI w16_216), .ref z17, .int z18, .ref z19]))] ++ va_pl L M_214) H_212 := hP1
                                          have hD : va_D A ([(za, .inr (13, [.int 0, .ref z1, .int (nI z2), .int (nI z3), .int z4, .int z5, .ref z6, .ref z7, .ref z8, .ref z9, .int (nI z10), .ref z11, .ref z12, .ref z13, .ref z14, .ref z15, .int (nI w16_216), .ref z17, .int z18, .ref z19]))] ++ va_pl L M_214) := hD1.mono hFc
                                          obtain ⟨fs218, hM218, hn218, hl218⟩ := hW.open_12 hb_13
                                          have hv_219 : fs218[15]? = some (.int (nI v112) : Value) := (hG2 _ hb_13 _ _ hM111 hM218 15 (by decide)).trans hv112
                                          have hF : fr K L [12, 14, 15, 32, 42, 45, 46, 79, 80, 81, 83] M M_214 := hF.tr hF2 (by decide)
                                          have hG : fG K L [1, 7, 8, 13, 14, 15, 16, 17, 18] M M_214 := hG.tr hWb hG2 (by decide)
                                          obtain ⟨n_220, g_221, g_222, hn17, hV2⟩ := hVP
                                          rw [hV.2.1] at hn17
                                          rw [hV.2.1, hV.2.2.1] at hV2
                                          have hn17 : ((gnw105 : Nat) : Int) = (n_220 : Int) := hn17
                                          have hV : VW K L M M_214 b11 (va_up (va_up (fx M b11) 17 ((gnw105 : Nat) : Int)) 17 ((n_220 + 1 : Nat) : Int)) (va_up (va_up (va_up (va_up (ax M b11) 44 gpw105) 45 gqw105) 44 g_221) 45 g_222) := hV.tr hV2
                                          refine lv_iinc (v := (nI (v7w105 + 1))) (lv' := [(7, .int (nI (v7w105 + 1))), (6, .int (nI v86)), (5, .int (-1)), (4, .int (nI c_31)), (3, .int 0), (2, .ref b11), (0, .ref za), (1, .int k1)]) hx hb dX13_close_294 hl (k := 0) rfl (nI_1 v7w105) (by decide) rfl (fun ls hl => ?_)
                                          refine lv_goto (tgt := 278) hx hb dX13_close_297 (by decide) ?_
                                          exact ih_103 (v7w105 + 1) w16_216 (n_220 + 1) g_221 g_222 M_214 H_212 _ _ (by omega) (by omega) (by omega) (by omega) hW hF hG (by have h := hV; simp only [va_up_up] at h; rw [va_up_4] at h; exact h) hP hD hS (lv_sub hl [0, 1, 2, 3, 4, 5, 6, 7] rfl)
                                    exact key_102 (24 - 0 + 1) 0 zgw95 gnw78 gpw78 gqw78 M_98 H_99 _ _ (by omega) (by omega) (by omega) (by omega) hW hF hG hV hP hD hS (lv_sub hl [0, 1, 2, 3, 4, 5, 6, 7] rfl)
                                  · have hz := rfl (a := 0)
                                    have n_223 : ¬ (v86 ≤ v7w95) := fun q => c_100 ((iLE (a := v86) (b := v7w95) (by omega) (by omega)).mpr q)
                                    refine lv_aload_n hx hb dX13_close_261 rfl (lv_at hl 6 rfl) ?_
                                    refine lv_aload_n hx hb dX13_close_262 rfl (lv_at hl 5 rfl) ?_
                                    refine lv_iload hx hb dX13_close_263 (lv_at hl 0 rfl) ?_
                                    refine lv_iload_n hx hb dX13_close_265 rfl (lv_at hl 4 rfl) ?_
                                    have hPc : va_P D vwCl ([(za, .inr (13, [.int 0, .ref z1, .int (nI z2), .int (nI z3), .int z4, .int z5, .ref z6, .ref z7, .ref z8, .ref z9, .int (nI z10), .ref z11, .ref z12, .ref z13, .ref z14, .ref z15, .int (nI zgw95), .ref z17, .int z18, .ref z19]))] ++ va_pl L M_98) H_99 := hP
                                    have hDc : va_D A ([(za, .inr (13, [.int 0, .ref z1, .int (nI z2), .int (nI z3), .int z4, .int z5, .ref z6, .ref z7, .ref z8, .ref z9, .int (nI z10), .ref z11, .ref z12, .ref z13, .ref z14, .ref z15, .int (nI zgw95), .ref z17, .int z18, .ref z19]))] ++ va_pl L M_98) := hD
                                    have hFc : ∀ q, va_A ([(za, .inr (13, [.int 0, .ref z1, .int (nI z2), .int (nI z3), .int z4, .int z5, .ref z6, .ref z7, .ref z8, .ref z9, .int (nI z10), .ref z11, .ref z12, .ref z13, .ref z14, .ref z15, .int (nI zgw95), .ref z17, .int z18, .ref z19]))] ++ va_pl L M_98) H_99.size q → A q := pg_free hDc hS hA
                                    refine va_callv (va_runV (As := [.ref b11, .int (nI v7w95), .int 0]) (rest := []) ⟨hx, hb, hml, hown, hg⟩ (g_X13_stretch l D cy K L M_98 H_99.size za 0 z1 z2 z3 z4 z5 z6 z7 z8 z9 z10 z11 z12 z13 z14 z15 zgw95 z17 z18 z19 b11 v7w95 0  hW i1 b2 b3 i6 i7 i8 i9 b10 i11 i12 i13 i14 i15 (by omega) i17 i19 hb_13 (by omega) hV.2.2.2 (by rw [hV.2.1]; exact h11) (by rw [hV.2.1, hV.2.2.1]; exact hAT.2.2.2.1.1 h11) (by have hq9 := hs4 v7w95 (by omega); rw [hV.2.1, hV.2.2.1]; show fx M b11 0 ≤ (gpw78 v7w95).toInt; omega) (by have hq9 := hs4 v7w95 (by omega); rw [hV.2.2.1]; show (gpw78 v7w95).toInt + (gqw78 v7w95).toInt ≤ 1000; omega)) (cwV 3 hg (gV wd_875 wd_876 wd_877 wd_717 wd_878) rfl rfl rfl (by decide +kernel) ⟨(Nat.le_trans (Nat.le_of_ble_eq_true rfl) hRf), (Nat.le_trans (Nat.le_of_ble_eq_true rfl) hRl)⟩) ⟨PG.blind, va_recv hK hP (ci := 13) (q0 := 0) rfl rfl, fun U hU hW => ⟨rfl, PG.at hPc hK hDc hN hU hW⟩⟩ rfl rfl hl.1 rfl (lv_room (Nat.le_of_ble_eq_true rfl)) dX13_close_266 ⟨(Nat.le_trans (Nat.le_of_ble_eq_true rfl) hRc), (Nat.le_trans (Nat.le_of_ble_eq_true rfl) hRs)⟩) hS (fun q _ h => hFc q h) hFc (fun M_226 t H_224 locs ht hvm hw hB hz1 hk1 hS => ?_)
                                    have hWb := hW
                                    obtain ⟨hW, hF2, hG2, hp_227⟩ := hw
                                    obtain ⟨w16_228, hg_229, hP1, hD1⟩ := hB
                                    rw [ht] at hP1
                                    have hP : va_P D vwCl ([(za, .inr (13, [.int 0, .ref z1, .int (nI z2), .int (nI z3), .int z4, .int z5, .ref z6, .ref z7, .ref z8, .ref z9, .int (nI z10), .ref z11, .ref z12, .ref z13, .ref z14, .ref z15, .int (nI w16_228), .ref z17, .int z18, .ref z19]))] ++ va_pl L M_226) H_224 := hP1
                                    have hD : va_D A ([(za, .inr (13, [.int 0, .ref z1, .int (nI z2), .int (nI z3), .int z4, .int z5, .ref z6, .ref z7, .ref z8, .ref z9, .int (nI z10), .ref z11, .ref z12, .ref z13, .ref z14, .ref z15, .int (nI w16_228), .ref z17, .int z18, .ref z19]))] ++ va_pl L M_226) := hD1.mono hFc
                                    have hF : fr K L [12, 14, 15, 32, 42, 45, 46, 79, 80, 81, 83] M M_226 := hF.tr hF2 (by decide)
                                    have hG : fG K L [1, 7, 8, 13, 14, 15, 16, 17, 18] M M_226 := hG.tr hWb hG2 (by decide)
                                    have hV : VW K L M M_226 b11 (va_up (fx M b11) 17 ((gnw78 : Nat) : Int)) (va_up (va_up (ax M b11) 44 gpw78) 45 gqw78) := hV.cal hWb hW hF2 hG2 (by decide) (by decide) hb_13
                                    refine lv_iinc (v := (nI (v7w95 + 1))) (lv' := [(7, .int (nI (v7w95 + 1))), (6, .int (nI v86)), (5, .int (-1)), (4, .int (nI c_31)), (3, .int 0), (2, .ref b11), (0, .ref za), (1, .int k1)]) hx hb dX13_close_269 hl (k := 0) rfl (nI_1 v7w95) (by decide) rfl (fun ls hl => ?_)
                                    refine lv_goto (tgt := 254) hx hb dX13_close_272 (by decide) ?_
                                    exact ih_93 (v7w95 + 1) w16_228 M_226 H_224 _ _ (by omega) (by omega) (by omega) hW hF hG hV hP hD hS (lv_sub hl [0, 1, 2, 3, 4, 5, 6, 7] rfl)
                              exact key_92 (1001 - 0 + 1) 0 z16 M_89 H_87 _ _ (by omega) (by omega) (by omega) hW hF hG hV hP hD hS (lv_sub hl [0, 1, 2, 3, 4, 5, 6, 7] rfl)
                            · have hz := rfl (a := 0)
                              have n_230 : ¬ (c_31 < v6w78) := fun q => c_83 ((iLT (a := c_31) (b := v6w78) (by omega) (by omega)).mpr q)
                              obtain ⟨fs231, hM231, hn231, hl231⟩ := hW.open_12 hb_13
                              obtain ⟨v232, hv232, hc232⟩ : ∃ v : Nat, fs231[17]? = some (.int (nI v) : Value) ∧ v ≤ 120 := hl231 17 (by decide)
                              have hx17 : ((gnw78 : Nat) : Int) = ((v232 : Nat) : Int) := (congrFun hV.2.1 17).symm.trans ((fx_of hM231 rfl hv232).trans (nI_toInt (by omega)))
                              obtain ⟨v233, hv233, hc233⟩ : ∃ v : Nat, fs231[44]? = some (.ref v : Value) ∧ isk K L v 45 120 := hl231 44 (by decide)
                              obtain ⟨f234, hM234, hf234⟩ := hW.open_45 hc233
                              have hy44 : gpw78 = f234 := (congrFun hV.2.2.1 44).symm.trans (ax_of hM231 (by decide) hv233 hM234)
                              obtain ⟨v235, hv235, hc235⟩ : ∃ v : Nat, fs231[45]? = some (.ref v : Value) ∧ isk K L v 46 120 := hl231 45 (by decide)
                              obtain ⟨f236, hM236, hf236⟩ := hW.open_46 hc235
                              have hy45 : gqw78 = f236 := (congrFun hV.2.2.1 45).symm.trans (ax_of hM231 (by decide) hv235 hM236)
                              have hSD := hx_80
                              obtain ⟨hs1, hs2, hs3, hs4⟩ := hx_80
                              have hgn : v232 = gnw78 := by omega
                              refine lv_iload hx hb dX13_close_171 (lv_at hl 0 rfl) ?_
                              refine lv_iload_n hx hb dX13_close_173 rfl (lv_at hl 3 rfl) ?_
                              refine lv_icmp_eq (tgt := 186) hx hb dX13_close_174 (by decide) (fun c_237 => ?_) (fun c_237 => ?_)
                              · have hz := rfl (a := 0)
                                have n_238 : v6w78 = 0 := (iEQ (a := v6w78) (b := 0) (by omega) (by omega)).mp c_237
                                refine lv_aload_n hx hb dX13_close_186 rfl (lv_at hl 4 rfl) ?_
                                refine pg_getN (D := D) (ci := 12) (v := .ref v233) (C := RX12) (T := TX12) (N := 51) hx hb hg inG12 hown hK hP hb_13.1 hM231 rfl 44 (by decide) (hN.use (Cond.fieldLinkNest RX13 265 RX12 "stretchDay" "[I" RX13) 53 rfl rfl) (fun _ h9 => h9) hv233 dX13_close_187 ?_
                                refine lv_aload_n hx hb dX13_close_190 rfl (lv_at hl 4 rfl) ?_
                                refine pg_getN (D := D) (ci := 12) (v := .int (nI v232)) (C := RX12) (T := TX12) (N := 51) hx hb hg inG12 hown hK hP hb_13.1 hM231 rfl 17 (by decide) (hN.use (Cond.fieldLinkNest RX13 256 RX12 "stretches" "I" RX13) 26 rfl rfl) (fun _ h9 => h9) hv232 dX13_close_191 ?_
                                refine lv_iload hx hb dX13_close_194 (lv_at hl 0 rfl) ?_
                                refine pg_iast hx hb hK hP hD hS hc233.1 0 hM234 rfl (inbN v232 120 (by omega) (by omega)) dX13_close_196 (fun H_239 locs hP hD hS => ?_)
                                obtain ⟨M_240, eM_240⟩ : ∃ M1 : Hp, M1 = va_up M_81 v233 (.inl (cy 14, 120, .inl (upd f234 ((nI v232) : Int32).toNatClampNeg (nI v6w78)))) := ⟨_, rfl⟩
                                have hy44 : gpw78 = f234 := (congrFun hV.2.2.1 44).symm.trans (ax_of hM231 (by decide) hv233 hM234)
                                have hV : VW K L M M_240 b11 (va_up (fx M b11) 17 ((gnw78 : Nat) : Int)) (va_up (va_up (va_up (ax M b11) 44 gpw78) 45 gqw78) 44 (upd gpw78 ((nI v232) : Int32).toNatClampNeg (nI v6w78))) := by rw [eM_240]; exact hV.ast (j := 44) hW hb_13 hM231 (by decide) hv233 hc233 hM234
                                have hP : va_P D vwCl ([(za, .inr (13, [.int 0, .ref z1, .int (nI z2), .int (nI z3), .int z4, .int z5, .ref z6, .ref z7, .ref z8, .ref z9, .int (nI z10), .ref z11, .ref z12, .ref z13, .ref z14, .ref z15, .int (nI z16), .ref z17, .int z18, .ref z19]))] ++ va_pl L M_240) H_239 := by rw [eM_240]; exact hP
                                have hD : va_D A ([(za, .inr (13, [.int 0, .ref z1, .int (nI z2), .int (nI z3), .int z4, .int z5, .ref z6, .ref z7, .ref z8, .ref z9, .int (nI z10), .ref z11, .ref z12, .ref z13, .ref z14, .ref z15, .int (nI z16), .ref z17, .int z18, .ref z19]))] ++ va_pl L M_240) := by rw [eM_240]; exact hD
                                have hW : WOM cy K L M_240 := by rw [eM_240]; exact hW.up_45 hc233 ⟨_, rfl, (updP (P := fun z => ∃ c : Nat, c < 1000 ∧ z = nI c) hf234 ⟨v6w78, by omega, rfl⟩)⟩
                                have hF : fr K L [12, 14, 15, 32, 42, 45, 46, 79, 80, 81, 83] M M_240 := by rw [eM_240]; exact hF.up hc233 (by decide)
                                have hG : fG K L [1, 7, 8, 13, 14, 15, 16, 17, 18] M M_240 := by rw [eM_240]; exact hG.arr hc233 (by decide)
                                have hM_241 : M_240 v233 = .inl (cy 14, 120, .inl (upd f234 ((nI v232) : Int32).toNatClampNeg (nI v6w78))) := by rw [eM_240]; exact va_up_self _ _ _
                                have hM_242 : M_240 b11 = .inr (12, fs231) := by rw [eM_240, va_up_ne _ _ (hb_13.neT hc233 (by decide))]; exact hM231
                                have hM_243 : M_240 v235 = .inl (cy 14, 120, .inl (f236)) := by rw [eM_240, va_up_ne _ _ (hc235.neT hc233 (by decide))]; exact hM236
                                have hf_245 : ∀ j, j < 120 → ∃ c : Nat, c < 1000 ∧ (upd f234 ((nI v232) : Int32).toNatClampNeg (nI v6w78)) j = nI c := (updP (P := fun z => ∃ c : Nat, c < 1000 ∧ z = nI c) hf234 ⟨v6w78, by omega, rfl⟩)
                                obtain ⟨f_244, ef_244⟩ : ∃ f : Nat → Int32, f = upd f234 ((nI v232) : Int32).toNatClampNeg (nI v6w78) := ⟨_, rfl⟩
                                rw [← ef_244] at hM_241 hf_245
                                refine lv_aload_n hx hb dX13_close_197 rfl (lv_at hl 4 rfl) ?_
                                refine pg_getN (D := D) (ci := 12) (v := .ref v235) (C := RX12) (T := TX12) (N := 51) hx hb hg inG12 hown hK hP hb_13.1 hM_242 rfl 45 (by decide) (hN.use (Cond.fieldLinkNest RX13 268 RX12 "stretchDays" "[I" RX13) 54 rfl rfl) (fun _ h9 => h9) hv235 dX13_close_198 ?_
                                refine lv_aload_n hx hb dX13_close_201 rfl (lv_at hl 4 rfl) ?_
                                refine pg_getN (D := D) (ci := 12) (v := .int (nI v232)) (C := RX12) (T := TX12) (N := 51) hx hb hg inG12 hown hK hP hb_13.1 hM_242 rfl 17 (by decide) (hN.use (Cond.fieldLinkNest RX13 256 RX12 "stretches" "I" RX13) 26 rfl rfl) (fun _ h9 => h9) hv232 dX13_close_202 ?_
                                refine lv_iconst (v := 0) hx hb dX13_close_205 (by decide) ?_
                                refine pg_iast hx hb hK hP hD hS hc235.1 0 hM_243 rfl (inbN v232 120 (by omega) (by omega)) dX13_close_206 (fun H_246 locs hP hD hS => ?_)
                                obtain ⟨M_247, eM_247⟩ : ∃ M1 : Hp, M1 = va_up M_240 v235 (.inl (cy 14, 120, .inl (upd f236 ((nI v232) : Int32).toNatClampNeg 0))) := ⟨_, rfl⟩
                                have hy45 : gqw78 = f236 := (congrFun hV.2.2.1 45).symm.trans (ax_of hM_242 (by decide) hv235 hM_243)
                                have hV : VW K L M M_247 b11 (va_up (fx M b11) 17 ((gnw78 : Nat) : Int)) (va_up (va_up (va_up (va_up (ax M b11) 44 gpw78) 45 gqw78) 44 (upd gpw78 ((nI v232) : Int32).toNatClampNeg (nI v6w78))) 45 (upd gqw78 ((nI v232) : Int32).toNatClampNeg 0)) := by rw [eM_247]; exact hV.ast (j := 45) hW hb_13 hM_242 (by decide) hv235 hc235 hM_243
                                have hP : va_P D vwCl ([(za, .inr (13, [.int 0, .ref z1, .int (nI z2), .int (nI z3), .int z4, .int z5, .ref z6, .ref z7, .ref z8, .ref z9, .int (nI z10), .ref z11, .ref z12, .ref z13, .ref z14, .ref z15, .int (nI z16), .ref z17, .int z18, .ref z19]))] ++ va_pl L M_247) H_246 := by rw [eM_247]; exact hP
                                have hD : va_D A ([(za, .inr (13, [.int 0, .ref z1, .int (nI z2), .int (nI z3), .int z4, .int z5, .ref z6, .ref z7, .ref z8, .ref z9, .int (nI z10), .ref z11, .ref z12, .ref z13, .ref z14, .ref z15, .int (nI z16), .ref z17, .int z18, .ref z19]))] ++ va_pl L M_247) := by rw [eM_247]; exact hD
                                have hW : WOM cy K L M_247 := by rw [eM_247]; exact hW.up_46 hc235 ⟨_, rfl, (updP (P := fun z => ∃ c : Nat, c < 1001 ∧ z = nI c) hf236 ⟨0, by omega, rfl⟩)⟩
                                have hF : fr K L [12, 14, 15, 32, 42, 45, 46, 79, 80, 81, 83] M M_247 := by rw [eM_247]; exact hF.up hc235 (by decide)
                                have hG : fG K L [1, 7, 8, 13, 14, 15, 16, 17, 18] M M_247 := by rw [eM_247]; exact hG.arr hc235 (by decide)
                                have hM_248 : M_247 v235 = .inl (cy 14, 120, .inl (upd f236 ((nI v232) : Int32).toNatClampNeg 0)) := by rw [eM_247]; exact va_up_self _ _ _
                                have hM_249 : M_247 v233 = .inl (cy 14, 120, .inl (f_244)) := by rw [eM_247, va_up_ne _ _ (hc233.neT hc235 (by decide))]; exact hM_241
                                have hM_250 : M_247 b11 = .inr (12, fs231) := by rw [eM_247, va_up_ne _ _ (hb_13.neT hc235 (by decide))]; exact hM_242
                                have hf_252 : ∀ j, j < 120 → ∃ c : Nat, c < 1001 ∧ (upd f236 ((nI v232) : Int32).toNatClampNeg 0) j = nI c := (updP (P := fun z => ∃ c : Nat, c < 1001 ∧ z = nI c) hf236 ⟨0, by omega, rfl⟩)
                                obtain ⟨f_251, ef_251⟩ : ∃ f : Nat → Int32, f = upd f236 ((nI v232) : Int32).toNatClampNeg 0 := ⟨_, rfl⟩
                                rw [← ef_251] at hM_248 hf_252
                                refine lv_aload_n hx hb dX13_close_207 rfl (lv_at hl 4 rfl) ?_
                                refine lv_dup hx hb dX13_close_208 rfl ?_
                                refine pg_getN (D := D) (ci := 12) (v := .int (nI v232)) (C := RX12) (T := TX12) (N := 51) hx hb hg inG12 hown hK hP hb_13.1 hM_250 rfl 17 (by decide) (hN.use (Cond.fieldLinkNest RX13 256 RX12 "stretches" "I" RX13) 26 rfl rfl) (fun _ h9 => h9) hv232 dX13_close_209 ?_
                                refine lv_iconst (v := 1) hx hb dX13_close_212 (by decide) ?_
                                refine lv_iadd hx hb dX13_close_213 ?_
                                refine lv_topi (fun f_253 ef_253 => ?_)
                                obtain rfl : f_253 = (nI (v232 + 1)) := ef_253.trans (nI_add v232 1)
                                refine pg_putN (D := D) (ci := 12) (v := .int (nI (v232 + 1))) (ty := .int) (C := RX12) (T := TX12) (N := 51) hx hb hg inG12 tyX12 tyX12_ok nmX12 hown hK hP hD hS hb_13.1 hM_250 rfl 17 (by decide) (hN.use (Cond.fieldLinkNest RX13 256 RX12 "stretches" "I" RX13) 26 rfl rfl) (fun _ h9 => h9) rfl (by decide +kernel) rfl rfl (by rw [hn231]; decide) dX13_close_214 (fun H_254 locs hP hD hS => ?_)
                                have hs_257 : (fs231.set 17 (.int (nI (v232 + 1))))[17]? = some (.int (nI (v232 + 1))) := List.getElem?_set_self (by rw [hn231]; decide)
                                have hk_256 := fld12_set (k := 17) (w := .int (nI (v232 + 1))) hl231 (show fld12 K L 17 (fs231.set 17 (.int (nI (v232 + 1)))) from ⟨(v232 + 1), hs_257, by omega⟩)
                                have hn_258 : (fs231.set 17 (.int (nI (v232 + 1)))).length = 51 := by rw [List.length_set]; exact hn231
                                have hv_259 : (fs231.set 17 (.int (nI (v232 + 1))))[44]? = some (.ref v233) := by rw [List.getElem?_set_ne (by decide)]; exact hv233
                                have hv_260 : (fs231.set 17 (.int (nI (v232 + 1))))[45]? = some (.ref v235) := by rw [List.getElem?_set_ne (by decide)]; exact hv235
                                have hb_261 : (v232 + 1) ≤ 120 := by omega
                                obtain ⟨M_262, eM_262⟩ : ∃ M1 : Hp, M1 = va_up M_247 b11 (.inr (12, fs231.set 17 (.int (nI (v232 + 1))))) := ⟨_, rfl⟩
                                have hx17 : ((gnw78 : Nat) : Int) = ((v232 : Nat) : Int) := (congrFun hV.2.1 17).symm.trans ((fx_of hM_250 rfl hv232).trans (nI_toInt (by omega)))
                                have hV : VW K L M M_262 b11 (va_up (va_up (fx M b11) 17 ((gnw78 : Nat) : Int)) 17 (((v232 + 1) : Nat) : Int)) (va_up (va_up (va_up (va_up (ax M b11) 44 gpw78) 45 gqw78) 44 (upd gpw78 ((nI v232) : Int32).toNatClampNeg (nI v6w78))) 45 (upd gqw78 ((nI v232) : Int32).toNatClampNeg 0)) := by rw [eM_262]; exact hV.put hW hb_13 hM_250 hn231 rfl (by decide) rfl (nI_toInt (by omega))
                                have hP : va_P D vwCl ([(za, .inr (13, [.int 0, .ref z1, .int (nI z2), .int (nI z3), .int z4, .int z5, .ref z6, .ref z7, .ref z8, .ref z9, .int (nI z10), .ref z11, .ref z12, .ref z13, .ref z14, .ref z15, .int (nI z16), .ref z17, .int z18, .ref z19]))] ++ va_pl L M_262) H_254 := by rw [eM_262]; exact hP
                                have hD : va_D A ([(za, .inr (13, [.int 0, .ref z1, .int (nI z2), .int (nI z3), .int z4, .int z5, .ref z6, .ref z7, .ref z8, .ref z9, .int (nI z10), .ref z11, .ref z12, .ref z13, .ref z14, .ref z15, .int (nI z16), .ref z17, .int z18, .ref z19]))] ++ va_pl L M_262) := by rw [eM_262]; exact hD
                                have hW : WOM cy K L M_262 := by rw [eM_262]; exact hW.up_12 hb_13 ⟨_, rfl, hn_258, hk_256⟩
                                have hF : fr K L [12, 14, 15, 32, 42, 45, 46, 79, 80, 81, 83] M M_262 := by rw [eM_262]; exact hF.up hb_13 (by decide)
                                have hG : fG K L [1, 7, 8, 13, 14, 15, 16, 17, 18] M M_262 := by rw [eM_262]; exact hG.up hM_250 (by decide)
                                have hM_263 : M_262 b11 = .inr (12, fs231.set 17 (.int (nI (v232 + 1)))) := by rw [eM_262]; exact va_up_self _ _ _
                                have hM_264 : M_262 v235 = .inl (cy 14, 120, .inl (f_251)) := by rw [eM_262, va_up_ne _ _ (hc235.neT hb_13 (by decide))]; exact hM_248
                                have hM_265 : M_262 v233 = .inl (cy 14, 120, .inl (f_244)) := by rw [eM_262, va_up_ne _ _ (hc233.neT hb_13 (by decide))]; exact hM_249
                                refine lv_aload_n hx hb dX13_close_217 rfl (lv_at hl 4 rfl) ?_
                                refine pg_getN (D := D) (ci := 12) (v := .ref v235) (C := RX12) (T := TX12) (N := 51) hx hb hg inG12 hown hK hP hb_13.1 hM_263 rfl 45 (by decide) (hN.use (Cond.fieldLinkNest RX13 268 RX12 "stretchDays" "[I" RX13) 54 rfl rfl) (fun _ h9 => h9) hv_260 dX13_close_218 ?_
                                refine lv_aload_n hx hb dX13_close_221 rfl (lv_at hl 4 rfl) ?_
                                refine pg_getN (D := D) (ci := 12) (v := .int (nI (v232 + 1))) (C := RX12) (T := TX12) (N := 51) hx hb hg inG12 hown hK hP hb_13.1 hM_263 rfl 17 (by decide) (hN.use (Cond.fieldLinkNest RX13 256 RX12 "stretches" "I" RX13) 26 rfl rfl) (fun _ h9 => h9) hs_257 dX13_close_222 ?_
                                refine lv_iconst (v := 1) hx hb dX13_close_225 (by decide) ?_
                                refine lv_isub hx hb dX13_close_226 ?_
                                refine lv_topi (fun f_266 ef_266 => ?_)
                                obtain rfl : f_266 = (nI ((v232 + 1) - 1)) := ef_266.trans (nI_prd (by omega))
                                refine lv_dup2_11 hx hb dX13_close_227 rfl rfl ?_
                                have hi_267 : vp_in (nI ((v232 + 1) - 1)) 120 := (inbN ((v232 + 1) - 1) 120 (by omega) (by omega))
                                refine pg_iald hx hb hK hP hc235.1 0 hM_264 rfl hi_267 dX13_close_228 ?_
                                have hp_268 := hf_252 _ (vp_lt hi_267)
                                obtain ⟨c_269, hc_270, ec_271⟩ := hp_268
                                rw [ec_271]
                                have hy45 : (upd gqw78 ((nI v232) : Int32).toNatClampNeg 0) = f_251 := (congrFun hV.2.2.1 45).symm.trans (ax_of hM_263 (by decide) hv_260 hM_264)
                                have hec : (upd gqw78 ((nI v232) : Int32).toNatClampNeg 0) ((nI ((v232 + 1) - 1)) : Int32).toNatClampNeg = nI c_269 := by rw [hy45]; exact ec_271
                                have hcc : c_269 = 0 := updz (n := v232) (nI_cl (by omega)) ((nI_cl (by omega)).trans (by omega)) hec (by omega)
                                refine lv_iconst (v := 1) hx hb dX13_close_229 (by decide) ?_
                                refine lv_iadd hx hb dX13_close_230 ?_
                                refine lv_topi (fun f_272 ef_272 => ?_)
                                obtain rfl : f_272 = (nI (c_269 + 1)) := ef_272.trans (nI_add c_269 1)
                                refine pg_iast hx hb hK hP hD hS hc235.1 0 hM_264 rfl (inbN ((v232 + 1) - 1) 120 (by omega) (by omega)) dX13_close_231 (fun H_273 locs hP hD hS => ?_)
                                obtain ⟨M_274, eM_274⟩ : ∃ M1 : Hp, M1 = va_up M_262 v235 (.inl (cy 14, 120, .inl (upd f_251 ((nI ((v232 + 1) - 1)) : Int32).toNatClampNeg (nI (c_269 + 1))))) := ⟨_, rfl⟩
                                have hy45 : (upd gqw78 ((nI v232) : Int32).toNatClampNeg 0) = f_251 := (congrFun hV.2.2.1 45).symm.trans (ax_of hM_263 (by decide) hv_260 hM_264)
                                have hV : VW K L M M_274 b11 (va_up (va_up (fx M b11) 17 ((gnw78 : Nat) : Int)) 17 (((v232 + 1) : Nat) : Int)) (va_up (va_up (va_up (va_up (va_up (ax M b11) 44 gpw78) 45 gqw78) 44 (upd gpw78 ((nI v232) : Int32).toNatClampNeg (nI v6w78))) 45 (upd gqw78 ((nI v232) : Int32).toNatClampNeg 0)) 45 (upd (upd gqw78 ((nI v232) : Int32).toNatClampNeg 0) ((nI ((v232 + 1) - 1)) : Int32).toNatClampNeg (nI (c_269 + 1)))) := by rw [eM_274]; exact hV.ast (j := 45) hW hb_13 hM_263 (by decide) hv_260 hc235 hM_264
                                have hP : va_P D vwCl ([(za, .inr (13, [.int 0, .ref z1, .int (nI z2), .int (nI z3), .int z4, .int z5, .ref z6, .ref z7, .ref z8, .ref z9, .int (nI z10), .ref z11, .ref z12, .ref z13, .ref z14, .ref z15, .int (nI z16), .ref z17, .int z18, .ref z19]))] ++ va_pl L M_274) H_273 := by rw [eM_274]; exact hP
                                have hD : va_D A ([(za, .inr (13, [.int 0, .ref z1, .int (nI z2), .int (nI z3), .int z4, .int z5, .ref z6, .ref z7, .ref z8, .ref z9, .int (nI z10), .ref z11, .ref z12, .ref z13, .ref z14, .ref z15, .int (nI z16), .ref z17, .int z18, .ref z19]))] ++ va_pl L M_274) := by rw [eM_274]; exact hD
                                have hW : WOM cy K L M_274 := by rw [eM_274]; exact hW.up_46 hc235 ⟨_, rfl, (updP (P := fun z => ∃ c : Nat, c < 1001 ∧ z = nI c) hf_252 ⟨(c_269 + 1), by omega, rfl⟩)⟩
                                have hF : fr K L [12, 14, 15, 32, 42, 45, 46, 79, 80, 81, 83] M M_274 := by rw [eM_274]; exact hF.up hc235 (by decide)
                                have hG : fG K L [1, 7, 8, 13, 14, 15, 16, 17, 18] M M_274 := by rw [eM_274]; exact hG.arr hc235 (by decide)
                                have hM_275 : M_274 v235 = .inl (cy 14, 120, .inl (upd f_251 ((nI ((v232 + 1) - 1)) : Int32).toNatClampNeg (nI (c_269 + 1)))) := by rw [eM_274]; exact va_up_self _ _ _
                                have hM_276 : M_274 b11 = .inr (12, fs231.set 17 (.int (nI (v232 + 1)))) := by rw [eM_274, va_up_ne _ _ (hb_13.neT hc235 (by decide))]; exact hM_263
                                have hM_277 : M_274 v233 = .inl (cy 14, 120, .inl (f_244)) := by rw [eM_274, va_up_ne _ _ (hc233.neT hc235 (by decide))]; exact hM_265
                                have hf_279 : ∀ j, j < 120 → ∃ c : Nat, c < 1001 ∧ (upd f_251 ((nI ((v232 + 1) - 1)) : Int32).toNatClampNeg (nI (c_269 + 1))) j = nI c := (updP (P := fun z => ∃ c : Nat, c < 1001 ∧ z = nI c) hf_252 ⟨(c_269 + 1), by omega, rfl⟩)
                                obtain ⟨f_278, ef_278⟩ : ∃ f : Nat → Int32, f = upd f_251 ((nI ((v232 + 1) - 1)) : Int32).toNatClampNeg (nI (c_269 + 1)) := ⟨_, rfl⟩
                                rw [← ef_278] at hM_275 hf_279
                                refine lv_iinc (v := (nI (v6w78 + 1))) (lv' := [(6, .int (nI (v6w78 + 1))), (5, .int (-1)), (4, .int (nI c_31)), (3, .int 0), (2, .ref b11), (0, .ref za), (1, .int k1)]) hx hb dX13_close_232 hl (k := 0) rfl (nI_1 v6w78) (by decide) rfl (fun ls hl => ?_)
                                refine lv_goto (tgt := 164) hx hb dX13_close_235 (by decide) ?_
                                exact ih_76 (v6w78 + 1) (v232 + 1) (upd gpw78 ((nI v232) : Int32).toNatClampNeg (nI v6w78)) (upd (upd gqw78 ((nI v232) : Int32).toNatClampNeg 0) ((nI ((v232 + 1) - 1)) : Int32).toNatClampNeg (nI (c_269 + 1))) M_274 H_273 _ _ (by omega) (by omega) (by have h := SD.new hSD (by omega) (show (nI v232).toNatClampNeg = gnw78 from (nI_cl (by omega)).trans (by omega)) (show (nI ((v232 + 1) - 1)).toNatClampNeg = gnw78 from (nI_cl (by omega)).trans (by omega)) hcc; rw [← hgn] at h; exact h) hW hF hG (by have h := hV; simp only [va_up_up] at h; rw [va_up_4] at h; exact h) hP hD hS (lv_sub hl [0, 1, 2, 3, 4, 5, 6] rfl)
                              · have hz := rfl (a := 0)
                                have n_280 : ¬ (v6w78 = 0) := fun q => c_237 ((iEQ (a := v6w78) (b := 0) (by omega) (by omega)).mpr q)
                                refine lv_aload_n hx hb dX13_close_177 rfl (lv_at hl 4 rfl) ?_
                                refine lv_iload hx hb dX13_close_178 (lv_at hl 0 rfl) ?_
                                have hPc : va_P D vwCl ([] ++ va_pl L M_81) H_82 := hP.part (cx := []) [] rfl
                                have hDc : va_D A ([] ++ va_pl L M_81) := hD.part (cx := []) [] (by decide) rfl
                                have hFc : ∀ q, va_A ([] ++ va_pl L M_81) H_82.size q → A q := pg_free hDc hS hA
                                refine va_calli (va_runS (As := [.ref b11, .int (nI v6w78)]) (rest := []) ⟨hx, hb, hml, hown, hg⟩ (r_X13_isParted l D cy K L M_81 H_82.size b11 (nI v6w78)  hW hb_13) (va_cwS 2 hg (gS wd_879 wd_880 wd_717 wd_881) rfl rfl rfl (by decide +kernel) ⟨(Nat.le_trans (Nat.le_of_ble_eq_true rfl) hRf), (Nat.le_trans (Nat.le_of_ble_eq_true rfl) hRl)⟩) ⟨PG.blind, fun U hU hW => ⟨rfl, PG.at hPc hK hDc hN hU hW⟩⟩ rfl rfl hl.1 rfl (lv_room (Nat.le_of_ble_eq_true rfl)) dX13_close_180 ⟨(Nat.le_trans (Nat.le_of_ble_eq_true rfl) hRc), (Nat.le_trans (Nat.le_of_ble_eq_true rfl) hRs)⟩) hS (fun q _ h => hFc q h) hFc (fun r_282 M_283 t H_281 locs ht hvm hw hB hz1 hk1 hS => ?_)
                                have hp_284 := hw
                                obtain ⟨hP1, hD1⟩ := hB
                                rw [ht] at hP1
                                obtain ⟨hP, hD⟩ := va_joinP (X := [(za, .inr (13, [.int 0, .ref z1, .int (nI z2), .int (nI z3), .int z4, .int z5, .ref z6, .ref z7, .ref z8, .ref z9, .int (nI z10), .ref z11, .ref z12, .ref z13, .ref z14, .ref z15, .int (nI z16), .ref z17, .int z18, .ref z19]))]) (cx := []) (wr := [(za, .inr (13, [.int 0, .ref z1, .int (nI z2), .int (nI z3), .int z4, .int z5, .ref z6, .ref z7, .ref z8, .ref z9, .int (nI z10), .ref z11, .ref z12, .ref z13, .ref z14, .ref z15, .int (nI z16), .ref z17, .int z18, .ref z19]))]) (rx := []) (pl := va_pl L M_81) (pl1 := va_pl L M_81) hP hD [] [0] rfl rfl (by decide) (by decide) hk1 hFc hP1 hD1
                                have hP : va_P D vwCl ([(za, .inr (13, [.int 0, .ref z1, .int (nI z2), .int (nI z3), .int z4, .int z5, .ref z6, .ref z7, .ref z8, .ref z9, .int (nI z10), .ref z11, .ref z12, .ref z13, .ref z14, .ref z15, .int (nI z16), .ref z17, .int z18, .ref z19]))] ++ va_pl L M_81) H_281 := hP
                                have hD : va_D A ([(za, .inr (13, [.int 0, .ref z1, .int (nI z2), .int (nI z3), .int z4, .int z5, .ref z6, .ref z7, .ref z8, .ref z9, .int (nI z10), .ref z11, .ref z12, .ref z13, .ref z14, .ref z15, .int (nI z16), .ref z17, .int z18, .ref z19]))] ++ va_pl L M_81) := hD
                                rcases hp_284 with rfl | rfl
                                · have hz := rfl (a := 0)
                                  refine lv_if_eq (tgt := 217) hx hb dX13_close_183 (by decide) (fun c_285 => absurd c_285 (by decide)) (fun _ => ?_)
                                  refine lv_aload_n hx hb dX13_close_186 rfl (lv_at hl 4 rfl) ?_
                                  refine pg_getN (D := D) (ci := 12) (v := .ref v233) (C := RX12) (T := TX12) (N := 51) hx hb hg inG12 hown hK hP hb_13.1 hM231 rfl 44 (by decide) (hN.use (Cond.fieldLinkNest RX13 265 RX12 "stretchDay" "[I" RX13) 53 rfl rfl) (fun _ h9 => h9) hv233 dX13_close_187 ?_
                                  refine lv_aload_n hx hb dX13_close_190 rfl (lv_at hl 4 rfl) ?_
                                  refine pg_getN (D := D) (ci := 12) (v := .int (nI v232)) (C := RX12) (T := TX12) (N := 51) hx hb hg inG12 hown hK hP hb_13.1 hM231 rfl 17 (by decide) (hN.use (Cond.fieldLinkNest RX13 256 RX12 "stretches" "I" RX13) 26 rfl rfl) (fun _ h9 => h9) hv232 dX13_close_191 ?_
                                  refine lv_iload hx hb dX13_close_194 (lv_at hl 0 rfl) ?_
                                  refine pg_iast hx hb hK hP hD hS hc233.1 0 hM234 rfl (inbN v232 120 (by omega) (by omega)) dX13_close_196 (fun H_286 locs hP hD hS => ?_)
                                  obtain ⟨M_287, eM_287⟩ : ∃ M1 : Hp, M1 = va_up M_81 v233 (.inl (cy 14, 120, .inl (upd f234 ((nI v232) : Int32).toNatClampNeg (nI v6w78)))) := ⟨_, rfl⟩
                                  have hy44 : gpw78 = f234 := (congrFun hV.2.2.1 44).symm.trans (ax_of hM231 (by decide) hv233 hM234)
                                  have hV : VW K L M M_287 b11 (va_up (fx M b11) 17 ((gnw78 : Nat) : Int)) (va_up (va_up (va_up (ax M b11) 44 gpw78) 45 gqw78) 44 (upd gpw78 ((nI v232) : Int32).toNatClampNeg (nI v6w78))) := by rw [eM_287]; exact hV.ast (j := 44) hW hb_13 hM231 (by decide) hv233 hc233 hM234
                                  have hP : va_P D vwCl ([(za, .inr (13, [.int 0, .ref z1, .int (nI z2), .int (nI z3), .int z4, .int z5, .ref z6, .ref z7, .ref z8, .ref z9, .int (nI z10), .ref z11, .ref z12, .ref z13, .ref z14, .ref z15, .int (nI z16), .ref z17, .int z18, .ref z19]))] ++ va_pl L M_287) H_286 := by rw [eM_287]; exact hP
                                  have hD : va_D A ([(za, .inr (13, [.int 0, .ref z1, .int (nI z2), .int (nI z3), .int z4, .int z5, .ref z6, .ref z7, .ref z8, .ref z9, .int (nI z10), .ref z11, .ref z12, .ref z13, .ref z14, .ref z15, .int (nI z16), .ref z17, .int z18, .ref z19]))] ++ va_pl L M_287) := by rw [eM_287]; exact hD
                                  have hW : WOM cy K L M_287 := by rw [eM_287]; exact hW.up_45 hc233 ⟨_, rfl, (updP (P := fun z => ∃ c : Nat, c < 1000 ∧ z = nI c) hf234 ⟨v6w78, by omega, rfl⟩)⟩
                                  have hF : fr K L [12, 14, 15, 32, 42, 45, 46, 79, 80, 81, 83] M M_287 := by rw [eM_287]; exact hF.up hc233 (by decide)
                                  have hG : fG K L [1, 7, 8, 13, 14, 15, 16, 17, 18] M M_287 := by rw [eM_287]; exact hG.arr hc233 (by decide)
                                  have hM_288 : M_287 v233 = .inl (cy 14, 120, .inl (upd f234 ((nI v232) : Int32).toNatClampNeg (nI v6w78))) := by rw [eM_287]; exact va_up_self _ _ _
                                  have hM_289 : M_287 b11 = .inr (12, fs231) := by rw [eM_287, va_up_ne _ _ (hb_13.neT hc233 (by decide))]; exact hM231
                                  have hM_290 : M_287 v235 = .inl (cy 14, 120, .inl (f236)) := by rw [eM_287, va_up_ne _ _ (hc235.neT hc233 (by decide))]; exact hM236
                                  have hf_292 : ∀ j, j < 120 → ∃ c : Nat, c < 1000 ∧ (upd f234 ((nI v232) : Int32).toNatClampNeg (nI v6w78)) j = nI c := (updP (P := fun z => ∃ c : Nat, c < 1000 ∧ z = nI c) hf234 ⟨v6w78, by omega, rfl⟩)
                                  obtain ⟨f_291, ef_291⟩ : ∃ f : Nat → Int32, f = upd f234 ((nI v232) : Int32).toNatClampNeg (nI v6w78) := ⟨_, rfl⟩
                                  rw [← ef_291] at hM_288 hf_292
                                  refine lv_aload_n hx hb dX13_close_197 rfl (lv_at hl 4 rfl) ?_
                                  refine pg_getN (D := D) (ci := 12) (v := .ref v235) (C := RX12) (T := TX12) (N := 51) hx hb hg inG12 hown hK hP hb_13.1 hM_289 rfl 45 (by decide) (hN.use (Cond.fieldLinkNest RX13 268 RX12 "stretchDays" "[I" RX13) 54 rfl rfl) (fun _ h9 => h9) hv235 dX13_close_198 ?_
                                  refine lv_aload_n hx hb dX13_close_201 rfl (lv_at hl 4 rfl) ?_
                                  refine pg_getN (D := D) (ci := 12) (v := .int (nI v232)) (C := RX12) (T := TX12) (N := 51) hx hb hg inG12 hown hK hP hb_13.1 hM_289 rfl 17 (by decide) (hN.use (Cond.fieldLinkNest RX13 256 RX12 "stretches" "I" RX13) 26 rfl rfl) (fun _ h9 => h9) hv232 dX13_close_202 ?_
                                  refine lv_iconst (v := 0) hx hb dX13_close_205 (by decide) ?_
                                  refine pg_iast hx hb hK hP hD hS hc235.1 0 hM_290 rfl (inbN v232 120 (by omega) (by omega)) dX13_close_206 (fun H_293 locs hP hD hS => ?_)
                                  obtain ⟨M_294, eM_294⟩ : ∃ M1 : Hp, M1 = va_up M_287 v235 (.inl (cy 14, 120, .inl (upd f236 ((nI v232) : Int32).toNatClampNeg 0))) := ⟨_, rfl⟩
                                  have hy45 : gqw78 = f236 := (congrFun hV.2.2.1 45).symm.trans (ax_of hM_289 (by decide) hv235 hM_290)
                                  have hV : VW K L M M_294 b11 (va_up (fx M b11) 17 ((gnw78 : Nat) : Int)) (va_up (va_up (va_up (va_up (ax M b11) 44 gpw78) 45 gqw78) 44 (upd gpw78 ((nI v232) : Int32).toNatClampNeg (nI v6w78))) 45 (upd gqw78 ((nI v232) : Int32).toNatClampNeg 0)) := by rw [eM_294]; exact hV.ast (j := 45) hW hb_13 hM_289 (by decide) hv235 hc235 hM_290
                                  have hP : va_P D vwCl ([(za, .inr (13, [.int 0, .ref z1, .int (nI z2), .int (nI z3), .int z4, .int z5, .ref z6, .ref z7, .ref z8, .ref z9, .int (nI z10), .ref z11, .ref z12, .ref z13, .ref z14, .ref z15, .int (nI z16), .ref z17, .int z18, .ref z19]))] ++ va_pl L M_294) H_293 := by rw [eM_294]; exact hP
                                  have hD : va_D A ([(za, .inr (13, [.int 0, .ref z1, .int (nI z2), .int (nI z3), .int z4, .int z5, .ref z6, .ref z7, .ref z8, .ref z9, .int (nI z10), .ref z11, .ref z12, .ref z13, .ref z14, .ref z15, .int (nI z16), .ref z17, .int z18, .ref z19]))] ++ va_pl L M_294) := by rw [eM_294]; exact hD
                                  have hW : WOM cy K L M_294 := by rw [eM_294]; exact hW.up_46 hc235 ⟨_, rfl, (updP (P := fun z => ∃ c : Nat, c < 1001 ∧ z = nI c) hf236 ⟨0, by omega, rfl⟩)⟩
                                  have hF : fr K L [12, 14, 15, 32, 42, 45, 46, 79, 80, 81, 83] M M_294 := by rw [eM_294]; exact hF.up hc235 (by decide)
                                  have hG : fG K L [1, 7, 8, 13, 14, 15, 16, 17, 18] M M_294 := by rw [eM_294]; exact hG.arr hc235 (by decide)
                                  have hM_295 : M_294 v235 = .inl (cy 14, 120, .inl (upd f236 ((nI v232) : Int32).toNatClampNeg 0)) := by rw [eM_294]; exact va_up_self _ _ _
                                  have hM_296 : M_294 v233 = .inl (cy 14, 120, .inl (f_291)) := by rw [eM_294, va_up_ne _ _ (hc233.neT hc235 (by decide))]; exact hM_288
                                  have hM_297 : M_294 b11 = .inr (12, fs231) := by rw [eM_294, va_up_ne _ _ (hb_13.neT hc235 (by decide))]; exact hM_289
                                  have hf_299 : ∀ j, j < 120 → ∃ c : Nat, c < 1001 ∧ (upd f236 ((nI v232) : Int32).toNatClampNeg 0) j = nI c := (updP (P := fun z => ∃ c : Nat, c < 1001 ∧ z = nI c) hf236 ⟨0, by omega, rfl⟩)
                                  obtain ⟨f_298, ef_298⟩ : ∃ f : Nat → Int32, f = upd f236 ((nI v232) : Int32).toNatClampNeg 0 := ⟨_, rfl⟩
                                  rw [← ef_298] at hM_295 hf_299
                                  refine lv_aload_n hx hb dX13_close_207 rfl (lv_at hl 4 rfl) ?_
                                  refine lv_dup hx hb dX13_close_208 rfl ?_
                                  refine pg_getN (D := D) (ci := 12) (v := .int (nI v232)) (C := RX12) (T := TX12) (N := 51) hx hb hg inG12 hown hK hP hb_13.1 hM_297 rfl 17 (by decide) (hN.use (Cond.fieldLinkNest RX13 256 RX12 "stretches" "I" RX13) 26 rfl rfl) (fun _ h9 => h9) hv232 dX13_close_209 ?_
                                  refine lv_iconst (v := 1) hx hb dX13_close_212 (by decide) ?_
                                  refine lv_iadd hx hb dX13_close_213 ?_
                                  refine lv_topi (fun f_300 ef_300 => ?_)
                                  obtain rfl : f_300 = (nI (v232 + 1)) := ef_300.trans (nI_add v232 1)
                                  refine pg_putN (D := D) (ci := 12) (v := .int (nI (v232 + 1))) (ty := .int) (C := RX12) (T := TX12) (N := 51) hx hb hg inG12 tyX12 tyX12_ok nmX12 hown hK hP hD hS hb_13.1 hM_297 rfl 17 (by decide) (hN.use (Cond.fieldLinkNest RX13 256 RX12 "stretches" "I" RX13) 26 rfl rfl) (fun _ h9 => h9) rfl (by decide +kernel) rfl rfl (by rw [hn231]; decide) dX13_close_214 (fun H_301 locs hP hD hS => ?_)
                                  have hs_304 : (fs231.set 17 (.int (nI (v232 + 1))))[17]? = some (.int (nI (v232 + 1))) := List.getElem?_set_self (by rw [hn231]; decide)
                                  have hk_303 := fld12_set (k := 17) (w := .int (nI (v232 + 1))) hl231 (show fld12 K L 17 (fs231.set 17 (.int (nI (v232 + 1)))) from ⟨(v232 + 1), hs_304, by omega⟩)
                                  have hn_305 : (fs231.set 17 (.int (nI (v232 + 1)))).length = 51 := by rw [List.length_set]; exact hn231
                                  have hv_306 : (fs231.set 17 (.int (nI (v232 + 1))))[44]? = some (.ref v233) := by rw [List.getElem?_set_ne (by decide)]; exact hv233
                                  have hv_307 : (fs231.set 17 (.int (nI (v232 + 1))))[45]? = some (.ref v235) := by rw [List.getElem?_set_ne (by decide)]; exact hv235
                                  have hb_308 : (v232 + 1) ≤ 120 := by omega
                                  obtain ⟨M_309, eM_309⟩ : ∃ M1 : Hp, M1 = va_up M_294 b11 (.inr (12, fs231.set 17 (.int (nI (v232 + 1))))) := ⟨_, rfl⟩
                                  have hx17 : ((gnw78 : Nat) : Int) = ((v232 : Nat) : Int) := (congrFun hV.2.1 17).symm.trans ((fx_of hM_297 rfl hv232).trans (nI_toInt (by omega)))
                                  have hV : VW K L M M_309 b11 (va_up (va_up (fx M b11) 17 ((gnw78 : Nat) : Int)) 17 (((v232 + 1) : Nat) : Int)) (va_up (va_up (va_up (va_up (ax M b11) 44 gpw78) 45 gqw78) 44 (upd gpw78 ((nI v232) : Int32).toNatClampNeg (nI v6w78))) 45 (upd gqw78 ((nI v232) : Int32).toNatClampNeg 0)) := by rw [eM_309]; exact hV.put hW hb_13 hM_297 hn231 rfl (by decide) rfl (nI_toInt (by omega))
                                  have hP : va_P D vwCl ([(za, .inr (13, [.int 0, .ref z1, .int (nI z2), .int (nI z3), .int z4, .int z5, .ref z6, .ref z7, .ref z8, .ref z9, .int (nI z10), .ref z11, .ref z12, .ref z13, .ref z14, .ref z15, .int (nI z16), .ref z17, .int z18, .ref z19]))] ++ va_pl L M_309) H_301 := by rw [eM_309]; exact hP
                                  have hD : va_D A ([(za, .inr (13, [.int 0, .ref z1, .int (nI z2), .int (nI z3), .int z4, .int z5, .ref z6, .ref z7, .ref z8, .ref z9, .int (nI z10), .ref z11, .ref z12, .ref z13, .ref z14, .ref z15, .int (nI z16), .ref z17, .int z18, .ref z19]))] ++ va_pl L M_309) := by rw [eM_309]; exact hD
                                  have hW : WOM cy K L M_309 := by rw [eM_309]; exact hW.up_12 hb_13 ⟨_, rfl, hn_305, hk_303⟩
                                  have hF : fr K L [12, 14, 15, 32, 42, 45, 46, 79, 80, 81, 83] M M_309 := by rw [eM_309]; exact hF.up hb_13 (by decide)
                                  have hG : fG K L [1, 7, 8, 13, 14, 15, 16, 17, 18] M M_309 := by rw [eM_309]; exact hG.up hM_297 (by decide)
                                  have hM_310 : M_309 b11 = .inr (12, fs231.set 17 (.int (nI (v232 + 1)))) := by rw [eM_309]; exact va_up_self _ _ _
                                  have hM_311 : M_309 v235 = .inl (cy 14, 120, .inl (f_298)) := by rw [eM_309, va_up_ne _ _ (hc235.neT hb_13 (by decide))]; exact hM_295
                                  have hM_312 : M_309 v233 = .inl (cy 14, 120, .inl (f_291)) := by rw [eM_309, va_up_ne _ _ (hc233.neT hb_13 (by decide))]; exact hM_296
                                  refine lv_aload_n hx hb dX13_close_217 rfl (lv_at hl 4 rfl) ?_
                                  refine pg_getN (D := D) (ci := 12) (v := .ref v235) (C := RX12) (T := TX12) (N := 51) hx hb hg inG12 hown hK hP hb_13.1 hM_310 rfl 45 (by decide) (hN.use (Cond.fieldLinkNest RX13 268 RX12 "stretchDays" "[I" RX13) 54 rfl rfl) (fun _ h9 => h9) hv_307 dX13_close_218 ?_
                                  refine lv_aload_n hx hb dX13_close_221 rfl (lv_at hl 4 rfl) ?_
                                  refine pg_getN (D := D) (ci := 12) (v := .int (nI (v232 + 1))) (C := RX12) (T := TX12) (N := 51) hx hb hg inG12 hown hK hP hb_13.1 hM_310 rfl 17 (by decide) (hN.use (Cond.fieldLinkNest RX13 256 RX12 "stretches" "I" RX13) 26 rfl rfl) (fun _ h9 => h9) hs_304 dX13_close_222 ?_
                                  refine lv_iconst (v := 1) hx hb dX13_close_225 (by decide) ?_
                                  refine lv_isub hx hb dX13_close_226 ?_
                                  refine lv_topi (fun f_313 ef_313 => ?_)
                                  obtain rfl : f_313 = (nI ((v232 + 1) - 1)) := ef_313.trans (nI_prd (by omega))
                                  refine lv_dup2_11 hx hb dX13_close_227 rfl rfl ?_
                                  have hi_314 : vp_in (nI ((v232 + 1) - 1)) 120 := (inbN ((v232 + 1) - 1) 120 (by omega) (by omega))
                                  refine pg_iald hx hb hK hP hc235.1 0 hM_311 rfl hi_314 dX13_close_228 ?_
                                  have hp_315 := hf_299 _ (vp_lt hi_314)
                                  obtain ⟨c_316, hc_317, ec_318⟩ := hp_315
                                  rw [ec_318]
                                  have hy45 : (upd gqw78 ((nI v232) : Int32).toNatClampNeg 0) = f_298 := (congrFun hV.2.2.1 45).symm.trans (ax_of hM_310 (by decide) hv_307 hM_311)
                                  have hec : (upd gqw78 ((nI v232) : Int32).toNatClampNeg 0) ((nI ((v232 + 1) - 1)) : Int32).toNatClampNeg = nI c_316 := by rw [hy45]; exact ec_318
                                  have hcc : c_316 = 0 := updz (n := v232) (nI_cl (by omega)) ((nI_cl (by omega)).trans (by omega)) hec (by omega)
                                  refine lv_iconst (v := 1) hx hb dX13_close_229 (by decide) ?_
                                  refine lv_iadd hx hb dX13_close_230 ?_
                                  refine lv_topi (fun f_319 ef_319 => ?_)
                                  obtain rfl : f_319 = (nI (c_316 + 1)) := ef_319.trans (nI_add c_316 1)
                                  refine pg_iast hx hb hK hP hD hS hc235.1 0 hM_311 rfl (inbN ((v232 + 1) - 1) 120 (by omega) (by omega)) dX13_close_231 (fun H_320 locs hP hD hS => ?_)
                                  obtain ⟨M_321, eM_321⟩ : ∃ M1 : Hp, M1 = va_up M_309 v235 (.inl (cy 14, 120, .inl (upd f_298 ((nI ((v232 + 1) - 1)) : Int32).toNatClampNeg (nI (c_316 + 1))))) := ⟨_, rfl⟩
                                  have hy45 : (upd gqw78 ((nI v232) : Int32).toNatClampNeg 0) = f_298 := (congrFun hV.2.2.1 45).symm.trans (ax_of hM_310 (by decide) hv_307 hM_311)
                                  have hV : VW K L M M_321 b11 (va_up (va_up (fx M b11) 17 ((gnw78 : Nat) : Int)) 17 (((v232 + 1) : Nat) : Int)) (va_up (va_up (va_up (va_up (va_up (ax M b11) 44 gpw78) 45 gqw78) 44 (upd gpw78 ((nI v232) : Int32).toNatClampNeg (nI v6w78))) 45 (upd gqw78 ((nI v232) : Int32).toNatClampNeg 0)) 45 (upd (upd gqw78 ((nI v232) : Int32).toNatClampNeg 0) ((nI ((v232 + 1) - 1)) : Int32).toNatClampNeg (nI (c_316 + 1)))) := by rw [eM_321]; exact hV.ast (j := 45) hW hb_13 hM_310 (by decide) hv_307 hc235 hM_311
                                  have hP : va_P D vwCl ([(za, .inr (13, [.int 0, .ref z1, .int (nI z2), .int (nI z3), .int z4, .int z5, .ref z6, .ref z7, .ref z8, .ref z9, .int (nI z10), .ref z11, .ref z12, .ref z13, .ref z14, .ref z15, .int (nI z16), .ref z17, .int z18, .ref z19]))] ++ va_pl L M_321) H_320 := by rw [eM_321]; exact hP
                                  have hD : va_D A ([(za, .inr (13, [.int 0, .ref z1, .int (nI z2), .int (nI z3), .int z4, .int z5, .ref z6, .ref z7, .ref z8, .ref z9, .int (nI z10), .ref z11, .ref z12, .ref z13, .ref z14, .ref z15, .int (nI z16), .ref z17, .int z18, .ref z19]))] ++ va_pl L M_321) := by rw [eM_321]; exact hD
                                  have hW : WOM cy K L M_321 := by rw [eM_321]; exact hW.up_46 hc235 ⟨_, rfl, (updP (P := fun z => ∃ c : Nat, c < 1001 ∧ z = nI c) hf_299 ⟨(c_316 + 1), by omega, rfl⟩)⟩
                                  have hF : fr K L [12, 14, 15, 32, 42, 45, 46, 79, 80, 81, 83] M M_321 := by rw [eM_321]; exact hF.up hc235 (by decide)
                                  have hG : fG K L [1, 7, 8, 13, 14, 15, 16, 17, 18] M M_321 := by rw [eM_321]; exact hG.arr hc235 (by decide)
                                  have hM_322 : M_321 v235 = .inl (cy 14, 120, .inl (upd f_298 ((nI ((v232 + 1) - 1)) : Int32).toNatClampNeg (nI (c_316 + 1)))) := by rw [eM_321]; exact va_up_self _ _ _
                                  have hM_323 : M_321 b11 = .inr (12, fs231.set 17 (.int (nI (v232 + 1)))) := by rw [eM_321, va_up_ne _ _ (hb_13.neT hc235 (by decide))]; exact hM_310
                                  have hM_324 : M_321 v233 = .inl (cy 14, 120, .inl (f_291)) := by rw [eM_321, va_up_ne _ _ (hc233.neT hc235 (by decide))]; exact hM_312
                                  have hf_326 : ∀ j, j < 120 → ∃ c : Nat, c < 1001 ∧ (upd f_298 ((nI ((v232 + 1) - 1)) : Int32).toNatClampNeg (nI (c_316 + 1))) j = nI c := (updP (P := fun z => ∃ c : Nat, c < 1001 ∧ z = nI c) hf_299 ⟨(c_316 + 1), by omega, rfl⟩)
                                  obtain ⟨f_325, ef_325⟩ : ∃ f : Nat → Int32, f = upd f_298 ((nI ((v232 + 1) - 1)) : Int32).toNatClampNeg (nI (c_316 + 1)) := ⟨_, rfl⟩
                                  rw [← ef_325] at hM_322 hf_326
                                  refine lv_iinc (v := (nI (v6w78 + 1))) (lv' := [(6, .int (nI (v6w78 + 1))), (5, .int (-1)), (4, .int (nI c_31)), (3, .int 0), (2, .ref b11), (0, .ref za), (1, .int k1)]) hx hb dX13_close_232 hl (k := 0) rfl (nI_1 v6w78) (by decide) rfl (fun ls hl => ?_)
                                  refine lv_goto (tgt := 164) hx hb dX13_close_235 (by decide) ?_
                                  exact ih_76 (v6w78 + 1) (v232 + 1) (upd gpw78 ((nI v232) : Int32).toNatClampNeg (nI v6w78)) (upd (upd gqw78 ((nI v232) : Int32).toNatClampNeg 0) ((nI ((v232 + 1) - 1)) : Int32).toNatClampNeg (nI (c_316 + 1))) M_321 H_320 _ _ (by omega) (by omega) (by have h := SD.new hSD (by omega) (show (nI v232).toNatClampNeg = gnw78 from (nI_cl (by omega)).trans (by omega)) (show (nI ((v232 + 1) - 1)).toNatClampNeg = gnw78 from (nI_cl (by omega)).trans (by omega)) hcc; rw [← hgn] at h; exact h) hW hF hG (by have h := hV; simp only [va_up_up] at h; rw [va_up_4] at h; exact h) hP hD hS (lv_sub hl [0, 1, 2, 3, 4, 5, 6] rfl)
                                · have hz := rfl (a := 0)
                                  refine lv_if_eq (tgt := 217) hx hb dX13_close_183 (by decide) (fun _ => ?_) (fun c_327 => absurd c_327 (by decide))
                                  refine lv_aload_n hx hb dX13_close_217 rfl (lv_at hl 4 rfl) ?_
                                  refine pg_getN (D := D) (ci := 12) (v := .ref v235) (C := RX12) (T := TX12) (N := 51) hx hb hg inG12 hown hK hP hb_13.1 hM231 rfl 45 (by decide) (hN.use (Cond.fieldLinkNest RX13 268 RX12 "stretchDays" "[I" RX13) 54 rfl rfl) (fun _ h9 => h9) hv235 dX13_close_218 ?_
                                  refine lv_aload_n hx hb dX13_close_221 rfl (lv_at hl 4 rfl) ?_
                                  refine pg_getN (D := D) (ci := 12) (v := .int (nI v232)) (C := RX12) (T := TX12) (N := 51) hx hb hg inG12 hown hK hP hb_13.1 hM231 rfl 17 (by decide) (hN.use (Cond.fieldLinkNest RX13 256 RX12 "stretches" "I" RX13) 26 rfl rfl) (fun _ h9 => h9) hv232 dX13_close_222 ?_
                                  refine lv_iconst (v := 1) hx hb dX13_close_225 (by decide) ?_
                                  refine lv_isub hx hb dX13_close_226 ?_
                                  refine lv_topi (fun f_328 ef_328 => ?_)
                                  obtain rfl : f_328 = (nI (v232 - 1)) := ef_328.trans (nI_prd (by omega))
                                  refine lv_dup2_11 hx hb dX13_close_227 rfl rfl ?_
                                  have hi_329 : vp_in (nI (v232 - 1)) 120 := (inbN (v232 - 1) 120 (by omega) (by omega))
                                  refine pg_iald hx hb hK hP hc235.1 0 hM236 rfl hi_329 dX13_close_228 ?_
                                  have hp_330 := hf236 _ (vp_lt hi_329)
                                  obtain ⟨c_331, hc_332, ec_333⟩ := hp_330
                                  rw [ec_333]
                                  have hy45 : gqw78 = f236 := (congrFun hV.2.2.1 45).symm.trans (ax_of hM231 (by decide) hv235 hM236)
                                  have hec : gqw78 ((nI (v232 - 1)) : Int32).toNatClampNeg = nI c_331 := by rw [hy45]; exact ec_333
                                  have hcc : c_331 ≤ v6w78 := SD.c hSD (by omega) ((nI_cl (by omega)).trans (by omega)) hec (by omega)
                                  refine lv_iconst (v := 1) hx hb dX13_close_229 (by decide) ?_
                                  refine lv_iadd hx hb dX13_close_230 ?_
                                  refine lv_topi (fun f_334 ef_334 => ?_)
                                  obtain rfl : f_334 = (nI (c_331 + 1)) := ef_334.trans (nI_add c_331 1)
                                  refine pg_iast hx hb hK hP hD hS hc235.1 0 hM236 rfl (inbN (v232 - 1) 120 (by omega) (by omega)) dX13_close_231 (fun H_335 locs hP hD hS => ?_)
                                  obtain ⟨M_336, eM_336⟩ : ∃ M1 : Hp, M1 = va_up M_81 v235 (.inl (cy 14, 120, .inl (upd f236 ((nI (v232 - 1)) : Int32).toNatClampNeg (nI (c_331 + 1))))) := ⟨_, rfl⟩
                                  have hy45 : gqw78 = f236 := (congrFun hV.2.2.1 45).symm.trans (ax_of hM231 (by decide) hv235 hM236)
                                  have hV : VW K L M M_336 b11 (va_up (fx M b11) 17 ((gnw78 : Nat) : Int)) (va_up (va_up (va_up (ax M b11) 44 gpw78) 45 gqw78) 45 (upd gqw78 ((nI (v232 - 1)) : Int32).toNatClampNeg (nI (c_331 + 1)))) := by rw [eM_336]; exact hV.ast (j := 45) hW hb_13 hM231 (by decide) hv235 hc235 hM236
                                  have hP : va_P D vwCl ([(za, .inr (13, [.int 0, .ref z1, .int (nI z2), .int (nI z3), .int z4, .int z5, .ref z6, .ref z7, .ref z8, .ref z9, .int (nI z10), .ref z11, .ref z12, .ref z13, .ref z14, .ref z15, .int (nI z16), .ref z17, .int z18, .ref z19]))] ++ va_pl L M_336) H_335 := by rw [eM_336]; exact hP
                                  have hD : va_D A ([(za, .inr (13, [.int 0, .ref z1, .int (nI z2), .int (nI z3), .int z4, .int z5, .ref z6, .ref z7, .ref z8, .ref z9, .int (nI z10), .ref z11, .ref z12, .ref z13, .ref z14, .ref z15, .int (nI z16), .ref z17, .int z18, .ref z19]))] ++ va_pl L M_336) := by rw [eM_336]; exact hD
                                  have hW : WOM cy K L M_336 := by rw [eM_336]; exact hW.up_46 hc235 ⟨_, rfl, (updP (P := fun z => ∃ c : Nat, c < 1001 ∧ z = nI c) hf236 ⟨(c_331 + 1), by omega, rfl⟩)⟩
                                  have hF : fr K L [12, 14, 15, 32, 42, 45, 46, 79, 80, 81, 83] M M_336 := by rw [eM_336]; exact hF.up hc235 (by decide)
                                  have hG : fG K L [1, 7, 8, 13, 14, 15, 16, 17, 18] M M_336 := by rw [eM_336]; exact hG.arr hc235 (by decide)
                                  have hM_337 : M_336 v235 = .inl (cy 14, 120, .inl (upd f236 ((nI (v232 - 1)) : Int32).toNatClampNeg (nI (c_331 + 1)))) := by rw [eM_336]; exact va_up_self _ _ _
                                  have hM_338 : M_336 b11 = .inr (12, fs231) := by rw [eM_336, va_up_ne _ _ (hb_13.neT hc235 (by decide))]; exact hM231
                                  have hM_339 : M_336 v233 = .inl (cy 14, 120, .inl (f234)) := by rw [eM_336, va_up_ne _ _ (hc233.neT hc235 (by decide))]; exact hM234
                                  have hf_341 : ∀ j, j < 120 → ∃ c : Nat, c < 1001 ∧ (upd f236 ((nI (v232 - 1)) : Int32).toNatClampNeg (nI (c_331 + 1))) j = nI c := (updP (P := fun z => ∃ c : Nat, c < 1001 ∧ z = nI c) hf236 ⟨(c_331 + 1), by omega, rfl⟩)
                                  obtain ⟨f_340, ef_340⟩ : ∃ f : Nat → Int32, f = upd f236 ((nI (v232 - 1)) : Int32).toNatClampNeg (nI (c_331 + 1)) := ⟨_, rfl⟩
                                  rw [← ef_340] at hM_337 hf_341
                                  refine lv_iinc (v := (nI (v6w78 + 1))) (lv' := [(6, .int (nI (v6w78 + 1))), (5, .int (-1)), (4, .int (nI c_31)), (3, .int 0), (2, .ref b11), (0, .ref za), (1, .int k1)]) hx hb dX13_close_232 hl (k := 0) rfl (nI_1 v6w78) (by decide) rfl (fun ls hl => ?_)
                                  refine lv_goto (tgt := 164) hx hb dX13_close_235 (by decide) ?_
                                  exact ih_76 (v6w78 + 1) gnw78 gpw78 (upd gqw78 ((nI (v232 - 1)) : Int32).toNatClampNeg (nI (c_331 + 1))) M_336 H_335 _ _ (by omega) (by omega) (SD.old hSD (by omega) ((nI_cl (by omega)).trans (by omega)) hec (by omega)) hW hF hG (by have h := hV; simp only [va_up_up] at h; exact h) hP hD hS (lv_sub hl [0, 1, 2, 3, 4, 5, 6] rfl)
                        exact key_75 (1001 - 0 + 1) 0 0 (ax M b11 44) (ax M b11 45) M_70 H_71 _ _ (by omega) (by omega) (SD.rf _ _ _) hW hF hG (by rw [va_up_id, va_up_id]; exact hV) hP hD hS (lv_sub hl [0, 1, 2, 3, 4, 5, 6] rfl)
                      · have hz := rfl (a := 0)
                        have n_342 : ¬ (24 ≤ v6w68) := fun q => c_73 ((iLE (a := 24) (b := v6w68) (by omega) (by omega)).mpr q)
                        refine lv_aload_n hx hb dX13_close_147 rfl (lv_at hl 4 rfl) ?_
                        obtain ⟨v343, hv343, hc343⟩ : ∃ v : Nat, (fs14.set 17 (.int 0))[33]? = some (.ref v : Value) ∧ isk K L v 15 24 := hk_53 33 (by decide)
                        refine pg_getN (D := D) (ci := 12) (v := .ref v343) (C := RX12) (T := TX12) (N := 51) hx hb hg inG12 hown hK hP hb_13.1 hM_72 rfl 33 (by decide) (hN.use (Cond.fieldLinkNest RX13 259 RX12 "dues" "[J" RX13) 42 rfl rfl) (fun _ h9 => h9) hv343 dX13_close_148 ?_
                        refine lv_iload hx hb dX13_close_151 (lv_at hl 0 rfl) ?_
                        refine lv_lconst (v := 0) hx hb dX13_close_153 (by decide) ?_
                        obtain ⟨f344, hM344⟩ := hW.open_15 hc343
                        refine pg_last hx hb hK hP hD hS hc343.1 1 hM344 rfl (inbN v6w68 24 (by omega) (by omega)) dX13_close_154 (fun H_345 locs hP hD hS => ?_)
                        obtain ⟨M_346, eM_346⟩ : ∃ M1 : Hp, M1 = va_up M_70 v343 (.inl (cy 15, 24, .inr (.inl (vp_updL f344 ((nI v6w68) : Int32).toNatClampNeg 0)))) := ⟨_, rfl⟩
                        have hV : VW K L M M_346 b11 (va_up (fx M b11) 17 (0 : Int)) (ax M b11) := by rw [eM_346]; exact hV.oth hW hb_13 hc343 (by decide)
                        have hP : va_P D vwCl ([(za, .inr (13, [.int 0, .ref z1, .int (nI z2), .int (nI z3), .int z4, .int z5, .ref z6, .ref z7, .ref z8, .ref z9, .int (nI z10), .ref z11, .ref z12, .ref z13, .ref z14, .ref z15, .int (nI z16), .ref z17, .int z18, .ref z19]))] ++ va_pl L M_346) H_345 := by rw [eM_346]; exact hP
                        have hD : va_D A ([(za, .inr (13, [.int 0, .ref z1, .int (nI z2), .int (nI z3), .int z4, .int z5, .ref z6, .ref z7, .ref z8, .ref z9, .int (nI z10), .ref z11, .ref z12, .ref z13, .ref z14, .ref z15, .int (nI z16), .ref z17, .int z18, .ref z19]))] ++ va_pl L M_346) := by rw [eM_346]; exact hD
                        have hW : WOM cy K L M_346 := by rw [eM_346]; exact hW.up_15 hc343 ⟨_, rfl⟩
                        have hF : fr K L [12, 14, 15, 32, 42, 45, 46, 79, 80, 81, 83] M M_346 := by rw [eM_346]; exact hF.up hc343 (by decide)
                        have hG : fG K L [1, 7, 8, 13, 14, 15, 16, 17, 18] M M_346 := by rw [eM_346]; exact hG.arr hc343 (by decide)
                        have hM_347 : M_346 v343 = .inl (cy 15, 24, .inr (.inl (vp_updL f344 ((nI v6w68) : Int32).toNatClampNeg 0))) := by rw [eM_346]; exact va_up_self _ _ _
                        have hM_348 : M_346 b11 = .inr (12, fs14.set 17 (.int 0)) := by rw [eM_346, va_up_ne _ _ (hb_13.neT hc343 (by decide))]; exact hM_72
                        obtain ⟨f_349, ef_349⟩ : ∃ f : Nat → Int64, f = vp_updL f344 ((nI v6w68) : Int32).toNatClampNeg 0 := ⟨_, rfl⟩
                        rw [← ef_349] at hM_347
                        refine lv_iinc (v := (nI (v6w68 + 1))) (lv' := [(6, .int (nI (v6w68 + 1))), (5, .int (-1)), (4, .int (nI c_31)), (3, .int 0), (2, .ref b11), (0, .ref za), (1, .int k1)]) hx hb dX13_close_155 hl (k := 0) rfl (nI_1 v6w68) (by decide) rfl (fun ls hl => ?_)
                        refine lv_goto (tgt := 140) hx hb dX13_close_158 (by decide) ?_
                        exact ih_66 (v6w68 + 1) M_346 H_345 _ _ (by omega) hM_348 (by omega) hW hF hG hV hP hD hS (lv_sub hl [0, 1, 2, 3, 4, 5, 6] rfl)
                  exact key_65 (24 - 0 + 1) 0 M_63 H_51 _ _ (by omega) hM_64 (by omega) hW hF hG hV hP hD hS (lv_sub hl [0, 1, 2, 3, 4, 5, 6] rfl)
                · have hz := rfl (a := 0)
                  refine lv_istore (lv' := [(5, .int (nI j_48)), (4, .int (nI c_31)), (3, .int 0), (2, .ref b11), (0, .ref za), (1, .int k1)]) hx hb dX13_close_115 hl (by decide) rfl (fun ls hl => ?_)
                  refine lv_iload hx hb dX13_close_117 (lv_at hl 0 rfl) ?_
                  refine lv_iconst (v := (-1)) hx hb dX13_close_119 (by decide) ?_
                  refine lv_icmp_eq (tgt := 132) hx hb dX13_close_120 (by decide) (fun c_350 => absurd c_350 (nI_ne_m1 (by omega))) (fun _ => ?_)
                  refine lv_aload_n hx hb dX13_close_123 rfl (lv_at hl 4 rfl) ?_
                  refine lv_bipush (v := 7) hx hb dX13_close_124 (by decide) ?_
                  refine lv_iload hx hb dX13_close_126 (lv_at hl 0 rfl) ?_
                  have hPc := hP.sub (ws' := [(za, .inr (13, [.int 0, .ref z1, .int (nI z2), .int (nI z3), .int z4, .int z5, .ref z6, .ref z7, .ref z8, .ref z9, .int (nI z10), .ref z11, .ref z12, .ref z13, .ref z14, .ref z15, .int (nI z16), .ref z17, .int z18, .ref z19]))]) [0] rfl
                  have hDc := hD.sub (ws' := [(za, .inr (13, [.int 0, .ref z1, .int (nI z2), .int (nI z3), .int z4, .int z5, .ref z6, .ref z7, .ref z8, .ref z9, .int (nI z10), .ref z11, .ref z12, .ref z13, .ref z14, .ref z15, .int (nI z16), .ref z17, .int z18, .ref z19]))]) [0] (by decide) rfl
                  have hKc := hK.sub (tys' := []) [] rfl
                  have hFc := va_free (wc := [(za, .inr (13, [.int 0, .ref z1, .int (nI z2), .int (nI z3), .int z4, .int z5, .ref z6, .ref z7, .ref z8, .ref z9, .int (nI z10), .ref z11, .ref z12, .ref z13, .ref z14, .ref z15, .int (nI z16), .ref z17, .int z18, .ref z19]))]) hD hS hA [0] rfl
                  refine va_calli (va_runV (As := [.int 7, .int (nI j_48)]) (rest := []) ⟨hx, hb, hml, hown, hg⟩ (m_refusedAt l D H_44.size za 0 z1 (nI z2) (nI z3) z4 z5 z6 z7 z8 z9 (nI z10) z11 z12 z13 z14 z15 (nI z16) z17 z18 z19 7 (nI j_48)) (cwV 2 hg (gV wd_882 wd_883 wd_884 wd_717 wd_885) rfl rfl rfl (by decide +kernel) ⟨(Nat.le_trans (Nat.le_of_ble_eq_true rfl) hRf), (Nat.le_trans (Nat.le_of_ble_eq_true rfl) hRl)⟩) ⟨Pr.blind, va_recv hK hP (ci := 13) (q0 := 0) rfl rfl, fun U hU hW => ⟨rfl, Pr.at hPc hKc hDc hN hU hW⟩⟩ rfl rfl hl.1 rfl (lv_room (Nat.le_of_ble_eq_true rfl)) dX13_close_128 ⟨(Nat.le_trans (Nat.le_of_ble_eq_true rfl) hRc), (Nat.le_trans (Nat.le_of_ble_eq_true rfl) hRs)⟩) hS (fun q _ h => hFc q h) hFc (fun r_352 M_353 t H_351 locs ht hvm hw hB hz1 hk1 hS => ?_)
                  have hp_354 := hw
                  obtain ⟨hP1, hK1, hD1⟩ := hB
                  rw [ht] at hP1
                  obtain ⟨hP, hD⟩ := va_joinQ (X := [(za, .inr (13, [.int 0, .ref z1, .int (nI z2), .int (nI z3), .int z4, .int z5, .ref z6, .ref z7, .ref z8, .ref z9, .int (nI z10), .ref z11, .ref z12, .ref z13, .ref z14, .ref z15, .int (nI z16), .ref z17, .int z18, .ref z19]))]) (cx := [(za, .inr (13, [.int 0, .ref z1, .int (nI z2), .int (nI z3), .int z4, .int z5, .ref z6, .ref z7, .ref z8, .ref z9, .int (nI z10), .ref z11, .ref z12, .ref z13, .ref z14, .ref z15, .int (nI z16), .ref z17, .int z18, .ref z19]))]) (wr := []) (w1 := [(za, .inr (13, [.int 0, .ref z1, .int (nI z2), .int (nI z3), .int 7, .int (nI j_48), .ref z6, .ref z7, .ref z8, .ref z9, .int (nI z10), .ref z11, .ref z12, .ref z13, .ref z14, .ref z15, .int (nI z16), .ref z17, .int z18, .ref z19]))]) (pl := va_pl L M_39) hP hD [0] [] rfl rfl (by decide) (by decide) hk1 hFc hP1 hD1
                  have hP : va_P D vwCl ([(za, .inr (13, [.int 0, .ref z1, .int (nI z2), .int (nI z3), .int 7, .int (nI j_48), .ref z6, .ref z7, .ref z8, .ref z9, .int (nI z10), .ref z11, .ref z12, .ref z13, .ref z14, .ref z15, .int (nI z16), .ref z17, .int z18, .ref z19]))] ++ va_pl L M_39) H_351 := hP
                  have hD : va_D A ([(za, .inr (13, [.int 0, .ref z1, .int (nI z2), .int (nI z3), .int 7, .int (nI j_48), .ref z6, .ref z7, .ref z8, .ref z9, .int (nI z10), .ref z11, .ref z12, .ref z13, .ref z14, .ref z15, .int (nI z16), .ref z17, .int z18, .ref z19]))] ++ va_pl L M_39) := hD
                  have hq := Eq.symm hp_354
                  subst hq
                  have hA9 : HA (ax M b11 2) (ax M b11 3) := hAT.1
                  have hB9 : HB (fx M b11 16) (fx M b11 14) (ax M b11 3) (ax M b11 43) := hAT.2.1
                  have hC9 : HC (fx M b11 10) (ax M b11 22) (ax M b11 23) := hAT.2.2.1
                  have hD9 : HD (fx M b11 0) (fx M b11 11) (fx M b11 15) (ax M b11 34) (ax M b11 41) := hAT.2.2.2.1
                  have hE9 : HE (fx M b11 0) (fx M b11 1) (fx M b11 12) (fx M b11 13) (ax M b11 37) := hAT.2.2.2.2
                  have hH9 : HI (fx M b11) (ax M b11) := ⟨hA9, hB9, hC9, hD9, hE9⟩
                  have hGI9 : GI K L z1 z2 M_39 := GI.fin hW0 i1 b2 hGI hact hV (hF.at i1 (by decide)) hH9
                  rw [hQ]
                  exact W.iret (v := (-1)) hx hb hr (fun t ht hW9 => ⟨⟨(-1), M_39, rfl, ⟨hW, hF, hG, hGI9, trivial⟩, ⟨7, (nI j_48), z16, (by omega), by rw [ht]; exact hP, hD⟩⟩, hS.F ht⟩) hS.2.2 dX13_close_131
              · have hz := rfl (a := 0)
                have n_355 : ¬ (c_31 < v5w37) := fun q => c_42 ((iLT (a := c_31) (b := v5w37) (by omega) (by omega)).mpr q)
                refine lv_aload_n hx hb dX13_close_85 rfl (lv_at hl 3 rfl) ?_
                refine lv_iload hx hb dX13_close_86 (lv_at hl 0 rfl) ?_
                have hPc : va_P D vwCl ([] ++ va_pl L M_39) H_40 := hP.part (cx := []) [] rfl
                have hDc : va_D A ([] ++ va_pl L M_39) := hD.part (cx := []) [] (by decide) rfl
                have hFc : ∀ q, va_A ([] ++ va_pl L M_39) H_40.size q → A q := pg_free hDc hS hA
                refine va_calli (va_runV (As := [.int (nI v5w37)]) (rest := []) ⟨hx, hb, hml, hown, hg⟩ (r_X12_isOpen l D cy K L M_39 H_40.size b11 v5w37  hW hb_13 (by omega)) (cwV 1 hg (gV wd_752 wd_753 wd_754 wd_737 wd_755) rfl rfl rfl (by decide +kernel) ⟨(Nat.le_trans (Nat.le_of_ble_eq_true rfl) hRf), (Nat.le_trans (Nat.le_of_ble_eq_true rfl) hRl)⟩) ⟨PG.blind, pg_recv hK hP hb_13.1 hM_41 rfl, fun U hU hW => ⟨rfl, PG.at hPc hK hDc hN hU hW⟩⟩ rfl rfl hl.1 rfl (lv_room (Nat.le_of_ble_eq_true rfl)) dX13_close_88 ⟨(Nat.le_trans (Nat.le_of_ble_eq_true rfl) hRc), (Nat.le_trans (Nat.le_of_ble_eq_true rfl) hRs)⟩) hS (fun q _ h => hFc q h) hFc (fun r_357 M_358 t H_356 locs ht hvm hw hB hz1 hk1 hS => ?_)
                have hp_359 := hw
                obtain ⟨hP1, hD1⟩ := hB
                rw [ht] at hP1
                obtain ⟨hP, hD⟩ := va_joinP (X := [(za, .inr (13, [.int 0, .ref z1, .int (nI z2), .int (nI z3), .int z4, .int z5, .ref z6, .ref z7, .ref z8, .ref z9, .int (nI z10), .ref z11, .ref z12, .ref z13, .ref z14, .ref z15, .int (nI z16), .ref z17, .int z18, .ref z19]))]) (cx := []) (wr := [(za, .inr (13, [.int 0, .ref z1, .int (nI z2), .int (nI z3), .int z4, .int z5, .ref z6, .ref z7, .ref z8, .ref z9, .int (nI z10), .ref z11, .ref z12, .ref z13, .ref z14, .ref z15, .int (nI z16), .ref z17, .int z18, .ref z19]))]) (rx := []) (pl := va_pl L M_39) (pl1 := va_pl L M_39) hP hD [] [0] rfl rfl (by decide) (by decide) hk1 hFc hP1 hD1
                have hP : va_P D vwCl ([(za, .inr (13, [.int 0, .ref z1, .int (nI z2), .int (nI z3), .int z4, .int z5, .ref z6, .ref z7, .ref z8, .ref z9, .int (nI z10), .ref z11, .ref z12, .ref z13, .ref z14, .ref z15, .int (nI z16), .ref z17, .int z18, .ref z19]))] ++ va_pl L M_39) H_356 := hP
                have hD : va_D A ([(za, .inr (13, [.int 0, .ref z1, .int (nI z2), .int (nI z3), .int z4, .int z5, .ref z6, .ref z7, .ref z8, .ref z9, .int (nI z10), .ref z11, .ref z12, .ref z13, .ref z14, .ref z15, .int (nI z16), .ref z17, .int z18, .ref z19]))] ++ va_pl L M_39) := hD
                rcases hp_359 with rfl | rfl
                · have hz := rfl (a := 0)
                  refine lv_if_eq (tgt := 102) hx hb dX13_close_91 (by decide) (fun c_360 => absurd c_360 (by decide)) (fun _ => ?_)
                  refine lv_aload_n hx hb dX13_close_94 rfl (lv_at hl 4 rfl) ?_
                  refine lv_iconst (v := 5) hx hb dX13_close_95 (by decide) ?_
                  refine lv_iload hx hb dX13_close_96 (lv_at hl 0 rfl) ?_
                  have hPc := hP.sub (ws' := [(za, .inr (13, [.int 0, .ref z1, .int (nI z2), .int (nI z3), .int z4, .int z5, .ref z6, .ref z7, .ref z8, .ref z9, .int (nI z10), .ref z11, .ref z12, .ref z13, .ref z14, .ref z15, .int (nI z16), .ref z17, .int z18, .ref z19]))]) [0] rfl
                  have hDc := hD.sub (ws' := [(za, .inr (13, [.int 0, .ref z1, .int (nI z2), .int (nI z3), .int z4, .int z5, .ref z6, .ref z7, .ref z8, .ref z9, .int (nI z10), .ref z11, .ref z12, .ref z13, .ref z14, .ref z15, .int (nI z16), .ref z17, .int z18, .ref z19]))]) [0] (by decide) rfl
                  have hKc := hK.sub (tys' := []) [] rfl
                  have hFc := va_free (wc := [(za, .inr (13, [.int 0, .ref z1, .int (nI z2), .int (nI z3), .int z4, .int z5, .ref z6, .ref z7, .ref z8, .ref z9, .int (nI z10), .ref z11, .ref z12, .ref z13, .ref z14, .ref z15, .int (nI z16), .ref z17, .int z18, .ref z19]))]) hD hS hA [0] rfl
                  refine va_calli (va_runV (As := [.int 5, .int (nI v5w37)]) (rest := []) ⟨hx, hb, hml, hown, hg⟩ (m_refusedAt l D H_356.size za 0 z1 (nI z2) (nI z3) z4 z5 z6 z7 z8 z9 (nI z10) z11 z12 z13 z14 z15 (nI z16) z17 z18 z19 5 (nI v5w37)) (cwV 2 hg (gV wd_882 wd_883 wd_884 wd_717 wd_885) rfl rfl rfl (by decide +kernel) ⟨(Nat.le_trans (Nat.le_of_ble_eq_true rfl) hRf), (Nat.le_trans (Nat.le_of_ble_eq_true rfl) hRl)⟩) ⟨Pr.blind, va_recv hK hP (ci := 13) (q0 := 0) rfl rfl, fun U hU hW => ⟨rfl, Pr.at hPc hKc hDc hN hU hW⟩⟩ rfl rfl hl.1 rfl (lv_room (Nat.le_of_ble_eq_true rfl)) dX13_close_98 ⟨(Nat.le_trans (Nat.le_of_ble_eq_true rfl) hRc), (Nat.le_trans (Nat.le_of_ble_eq_true rfl) hRs)⟩) hS (fun q _ h => hFc q h) hFc (fun r_362 M_363 t H_361 locs ht hvm hw hB hz1 hk1 hS => ?_)
                  have hp_364 := hw
                  obtain ⟨hP1, hK1, hD1⟩ := hB
                  rw [ht] at hP1
                  obtain ⟨hP, hD⟩ := va_joinQ (X := [(za, .inr (13, [.int 0, .ref z1, .int (nI z2), .int (nI z3), .int z4, .int z5, .ref z6, .ref z7, .ref z8, .ref z9, .int (nI z10), .ref z11, .ref z12, .ref z13, .ref z14, .ref z15, .int (nI z16), .ref z17, .int z18, .ref z19]))]) (cx := [(za, .inr (13, [.int 0, .ref z1, .int (nI z2), .int (nI z3), .int z4, .int z5, .ref z6, .ref z7, .ref z8, .ref z9, .int (nI z10), .ref z11, .ref z12, .ref z13, .ref z14, .ref z15, .int (nI z16), .ref z17, .int z18, .ref z19]))]) (wr := []) (w1 := [(za, .inr (13, [.int 0, .ref z1, .int (nI z2), .int (nI z3), .int 5, .int (nI v5w37), .ref z6, .ref z7, .ref z8, .ref z9, .int (nI z10), .ref z11, .ref z12, .ref z13, .ref z14, .ref z15, .int (nI z16), .ref z17, .int z18, .ref z19]))]) (pl := va_pl L M_39) hP hD [0] [] rfl rfl (by decide) (by decide) hk1 hFc hP1 hD1
                  have hP : va_P D vwCl ([(za, .inr (13, [.int 0, .ref z1, .int (nI z2), .int (nI z3), .int 5, .int (nI v5w37), .ref z6, .ref z7, .ref z8, .ref z9, .int (nI z10), .ref z11, .ref z12, .ref z13, .ref z14, .ref z15, .int (nI z16), .ref z17, .int z18, .ref z19]))] ++ va_pl L M_39) H_361 := hP
                  have hD : va_D A ([(za, .inr (13, [.int 0, .ref z1, .int (nI z2), .int (nI z3), .int 5, .int (nI v5w37), .ref z6, .ref z7, .ref z8, .ref z9, .int (nI z10), .ref z11, .ref z12, .ref z13, .ref z14, .ref z15, .int (nI z16), .ref z17, .int z18, .ref z19]))] ++ va_pl L M_39) := hD
                  have hq := Eq.symm hp_364
                  subst hq
                  have hA9 : HA (ax M b11 2) (ax M b11 3) := hAT.1
                  have hB9 : HB (fx M b11 16) (fx M b11 14) (ax M b11 3) (ax M b11 43) := hAT.2.1
                  have hC9 : HC (fx M b11 10) (ax M b11 22) (ax M b11 23) := hAT.2.2.1
                  have hD9 : HD (fx M b11 0) (fx M b11 11) (fx M b11 15) (ax M b11 34) (ax M b11 41) := hAT.2.2.2.1
                  have hE9 : HE (fx M b11 0) (fx M b11 1) (fx M b11 12) (fx M b11 13) (ax M b11 37) := hAT.2.2.2.2
                  have hH9 : HI (fx M b11) (ax M b11) := ⟨hA9, hB9, hC9, hD9, hE9⟩
                  have hGI9 : GI K L z1 z2 M_39 := GI.fin hW0 i1 b2 hGI hact hV (hF.at i1 (by decide)) hH9
                  rw [hQ]
                  exact W.iret (v := (-1)) hx hb hr (fun t ht hW9 => ⟨⟨(-1), M_39, rfl, ⟨hW, hF, hG, hGI9, trivial⟩, ⟨5, (nI v5w37), z16, (by omega), by rw [ht]; exact hP, hD⟩⟩, hS.F ht⟩) hS.2.2 dX13_close_101
                · have hz := rfl (a := 0)
                  refine lv_if_eq (tgt := 102) hx hb dX13_close_91 (by decide) (fun _ => ?_) (fun c_365 => absurd c_365 (by decide))
                  refine lv_iinc (v := (nI (v5w37 + 1))) (lv' := [(5, .int (nI (v5w37 + 1))), (4, .int (nI c_31)), (3, .int 0), (2, .ref b11), (0, .ref za), (1, .int k1)]) hx hb dX13_close_102 hl (k := 0) rfl (nI_1 v5w37) (by decide) rfl (fun ls hl => ?_)
                  refine lv_goto (tgt := 78) hx hb dX13_close_105 (by decide) ?_
                  exact ih_35 (v5w37 + 1) M_39 H_356 _ _ (by omega) hM_41 (by omega) hW hF hG hV hP hD hS (lv_sub hl [0, 1, 2, 3, 4, 5] rfl)
          exact key_34 (1001 - 0 + 1) 0 M H_2 _ _ (by omega) hM14 (by omega) hW hF hG hV hP hD hS (lv_sub hl [0, 1, 2, 3, 4, 5] rfl)
        · have hz := rfl (a := 0)
          refine lv_iconst (v := 1) hx hb dX13_close_61 (by decide) ?_
          refine lv_iadd hx hb dX13_close_62 ?_
          refine lv_topi (fun f_366 ef_366 => ?_)
          obtain rfl : f_366 = (nI (c_26 + 1)) := ef_366.trans (nI_add c_26 1)
          refine lv_istore_n (lv' := [(3, .int (nI (c_26 + 1))), (2, .ref b11), (0, .ref za), (1, .int k1)]) hx hb dX13_close_63 rfl hl (by decide) rfl (fun ls hl => ?_)
          have hlt13 : v19 < v18 := by have h := hAT.2.2.2.2.1; omega
          refine lv_aload_n hx hb dX13_close_64 rfl (lv_at hl 1 rfl) ?_
          refine pg_getN (D := D) (ci := 12) (v := .ref v20) (C := RX12) (T := TX12) (N := 51) hx hb hg inG12 hown hK hP hb_13.1 hM14 rfl 37 (by decide) (hN.use (Cond.fieldLinkNest RX13 236 RX12 "end" "[I" RX13) 46 rfl rfl) (fun _ h9 => h9) hv20 dX13_close_65 ?_
          refine lv_aload_n hx hb dX13_close_68 rfl (lv_at hl 1 rfl) ?_
          refine pg_getN (D := D) (ci := 12) (v := .int (nI v19)) (C := RX12) (T := TX12) (N := 51) hx hb hg inG12 hown hK hP hb_13.1 hM14 rfl 13 (by decide) (hN.use (Cond.fieldLinkNest RX13 244 RX12 "closed" "I" RX13) 22 rfl rfl) (fun _ h9 => h9) hv19 dX13_close_69 ?_
          have hi_367 : vp_in (nI v19) 12 := (inbN v19 12 (by omega) (by omega))
          refine pg_iald hx hb hK hP hc20.1 0 hM21 rfl hi_367 dX13_close_72 ?_
          have hp_368 := hf21 _ (vp_lt hi_367)
          obtain ⟨c_369, hc_370, ec_371⟩ := hp_368
          rw [ec_371]
          refine lv_istore (lv' := [(4, .int (nI c_369)), (3, .int (nI (c_26 + 1))), (2, .ref b11), (0, .ref za), (1, .int k1)]) hx hb dX13_close_73 hl (by decide) rfl (fun ls hl => ?_)
          have hx1b : fx M b11 1 = (((c_26 + 1) : Nat) : Int) - 1 := by rw [hx1]; first | decide | (rw [nI_toInt (by omega)]; omega)
          obtain ⟨hq1, hq2, hq3, hq4⟩ := heC hAT.2.2.2.2 hb13 hb12 (by omega) (by omega) hb37 (nI_cl (by omega)) ec_371 (by omega)
          have h11 : 1 ≤ fx M b11 11 := by omega
          have hT37 : (ax M b11 37 v19).toInt = ((c_369 : Nat) : Int) := by
            have h := ec_371
            rw [nI_cl (by omega)] at h
            rw [hb37, h, nI_toInt (by omega)]
          refine lv_iload_n hx hb dX13_close_75 rfl (lv_at hl 1 rfl) ?_
          refine lv_istore (lv' := [(5, .int (nI (c_26 + 1))), (4, .int (nI c_369)), (3, .int (nI (c_26 + 1))), (2, .ref b11), (0, .ref za), (1, .int k1)]) hx hb dX13_close_76 hl (by decide) rfl (fun ls hl => ?_)
          have key_372 : ∀ (fu_374 : Nat) (v5w375 : Nat) (M_377 : Hp) (H_378 : Heap) (locs : List Loc) (ls : Array Slot), 1001 - v5w375 < fu_374 → M_377 b11 = .inr (12, fs14) → v5w375 ≤ 1000 → WOM cy K L M_377 → fr K L [12, 14, 15, 32, 42, 45, 46, 79, 80, 81, 83] M M_377 → fG K L [1, 7, 8, 13, 14, 15, 16, 17, 18] M M_377 → VW K L M M_377 b11 (fx M b11) (ax M b11) → va_P D vwCl ([(za, .inr (13, [.int 0, .ref z1, .int (nI z2), .int (nI z3), .int z4, .int z5, .ref z6, .ref z7, .ref z8, .ref z9, .int (nI z10), .ref z11, .ref z12, .ref z13, .ref z14, .ref z15, .int (nI z16), .ref z17, .int z18, .ref z19]))] ++ va_pl L M_377) H_378 → va_D A ([(za, .inr (13, [.int 0, .ref z1, .int (nI z2), .int (nI z3), .int z4, .int z5, .ref z6, .ref z7, .ref z8, .ref z9, .int (nI z10), .ref z11, .ref z12, .ref z13, .ref z14, .ref z15, .int (nI z16), .ref z17, .int z18, .ref z19]))] ++ va_pl L M_377) → va_S A s.heap H_378 locs → lv_has ls 8 [(5, .int (nI v5w375)), (4, .int (nI c_369)), (3, .int (nI (c_26 + 1))), (2, .ref b11), (0, .ref za), (1, .int k1)] → W p l e R s m ([.ref za, .int k1] : List Value).toArray below meth c H_378 locs 0 0 Q (F0 m 78 ls []) := by
            intro fu_374
            induction fu_374 with
            | zero => intro v5w375 M_377 H_378 locs ls h; exact absurd h (Nat.not_lt_zero _)
            | succ fu_374 ih_373 =>
              intro v5w375 M_377 H_378 locs ls hfu hM_379 hx_376 hW hF hG hV hP hD hS hl
              refine lv_iload hx hb dX13_close_78 (lv_at hl 0 rfl) ?_
              refine lv_iload hx hb dX13_close_80 (lv_at hl 1 rfl) ?_
              refine lv_icmp_gt (tgt := 108) hx hb dX13_close_82 (by decide) (fun c_380 => ?_) (fun c_380 => ?_)
              · have hz := rfl (a := 0)
                have n_381 : c_369 < v5w375 := (iLT (a := c_369) (b := v5w375) (by omega) (by omega)).mp c_380
                refine lv_aload_n hx hb dX13_close_108 rfl (lv_at hl 4 rfl) ?_
                refine lv_iload_n hx hb dX13_close_109 rfl (lv_at hl 5 rfl) ?_
                refine lv_iload hx hb dX13_close_110 (lv_at hl 1 rfl) ?_
                have hPc : va_P D vwCl ([(za, .inr (13, [.int 0, .ref z1, .int (nI z2), .int (nI z3), .int z4, .int z5, .ref z6, .ref z7, .ref z8, .ref z9, .int (nI z10), .ref z11, .ref z12, .ref z13, .ref z14, .ref z15, .int (nI z16), .ref z17, .int z18, .ref z19]))] ++ va_pl L M_377) H_378 := hP
                have hDc : va_D A ([(za, .inr (13, [.int 0, .ref z1, .int (nI z2), .int (nI z3), .int z4, .int z5, .ref z6, .ref z7, .ref z8, .ref z9, .int (nI z10), .ref z11, .ref z12, .ref z13, .ref z14, .ref z15, .int (nI z16), .ref z17, .int z18, .ref z19]))] ++ va_pl L M_377) := hD
                have hFc : ∀ q, va_A ([(za, .inr (13, [.int 0, .ref z1, .int (nI z2), .int (nI z3), .int z4, .int z5, .ref z6, .ref z7, .ref z8, .ref z9, .int (nI z10), .ref z11, .ref z12, .ref z13, .ref z14, .ref z15, .int (nI z16), .ref z17, .int z18, .ref z19]))] ++ va_pl L M_377) H_378.size q → A q := pg_free hDc hS hA
                refine va_calli (va_runV (As := [.int k1, .int (nI c_369)]) (rest := []) ⟨hx, hb, hml, hown, hg⟩ (r_X13_behind l D cy K L M_377 H_378.size za 0 z1 z2 z3 z4 z5 z6 z7 z8 z9 z10 z11 z12 z13 z14 z15 z16 z17 z18 z19 k1 (nI c_369)  hW i1 b2 b3 i6 i7 i8 i9 b10 i11 i12 i13 i14 i15 b16 i17 i19) (cwV 2 hg (gV wd_853 wd_854 wd_855 wd_717 wd_856) rfl rfl rfl (by decide +kernel) ⟨(Nat.le_trans (Nat.le_of_ble_eq_true rfl) hRf), (Nat.le_trans (Nat.le_of_ble_eq_true rfl) hRl)⟩) ⟨PG.blind, va_recv hK hP (ci := 13) (q0 := 0) rfl rfl, fun U hU hW => ⟨rfl, PG.at hPc hK hDc hN hU hW⟩⟩ rfl rfl hl.1 rfl (lv_room (Nat.le_of_ble_eq_true rfl)) dX13_close_112 ⟨(Nat.le_trans (Nat.le_of_ble_eq_true rfl) hRc), (Nat.le_trans (Nat.le_of_ble_eq_true rfl) hRs)⟩) hS (fun q _ h => hFc q h) hFc (fun r_383 M_384 t H_382 locs ht hvm hw hB hz1 hk1 hS => ?_)
                have hp_385 := hw
                obtain ⟨hP1, hD1⟩ := hB
                rw [ht] at hP1
                have hP : va_P D vwCl ([(za, .inr (13, [.int 0, .ref z1, .int (nI z2), .int (nI z3), .int z4, .int z5, .ref z6, .ref z7, .ref z8, .ref z9, .int (nI z10), .ref z11, .ref z12, .ref z13, .ref z14, .ref z15, .int (nI z16), .ref z17, .int z18, .ref z19]))] ++ va_pl L M_377) H_382 := hP1
                have hD : va_D A ([(za, .inr (13, [.int 0, .ref z1, .int (nI z2), .int (nI z3), .int z4, .int z5, .ref z6, .ref z7, .ref z8, .ref z9, .int (nI z10), .ref z11, .ref z12, .ref z13, .ref z14, .ref z15, .int (nI z16), .ref z17, .int z18, .ref z19]))] ++ va_pl L M_377) := hD1.mono hFc
                rcases hp_385 with rfl | ⟨j_386, rfl, c_387⟩
                · have hz := rfl (a := 0)
                  refine lv_istore (lv' := [(5, .int (-1)), (4, .int (nI c_369)), (3, .int (nI (c_26 + 1))), (2, .ref b11), (0, .ref za), (1, .int k1)]) hx hb dX13_close_115 hl (by decide) rfl (fun ls hl => ?_)
                  refine lv_iload hx hb dX13_close_117 (lv_at hl 0 rfl) ?_
                  refine lv_iconst (v := (-1)) hx hb dX13_close_119 (by decide) ?_
                  refine lv_icmp_eq (tgt := 132) hx hb dX13_close_120 (by decide) (fun _ => ?_) (fun c_388 => absurd c_388 (by decide))
                  refine lv_aload_n hx hb dX13_close_132 rfl (lv_at hl 3 rfl) ?_
                  refine lv_iconst (v := 0) hx hb dX13_close_133 (by decide) ?_
                  refine pg_putN (D := D) (ci := 12) (v := .int 0) (ty := .int) (C := RX12) (T := TX12) (N := 51) hx hb hg inG12 tyX12 tyX12_ok nmX12 hown hK hP hD hS hb_13.1 hM_379 rfl 17 (by decide) (hN.use (Cond.fieldLinkNest RX13 256 RX12 "stretches" "I" RX13) 26 rfl rfl) (fun _ h9 => h9) rfl (by decide +kernel) rfl rfl (by rw [hn14]; decide) dX13_close_134 (fun H_389 locs hP hD hS => ?_)
                  have hs_392 : (fs14.set 17 (.int 0))[17]? = some (.int (nI 0)) := List.getElem?_set_self (by rw [hn14]; decide)
                  have hk_391 := fld12_set (k := 17) (w := .int 0) hl14 (show fld12 K L 17 (fs14.set 17 (.int 0)) from ⟨0, hs_392, by omega⟩)
                  have hn_393 : (fs14.set 17 (.int 0)).length = 51 := by rw [List.length_set]; exact hn14
                  have hv_394 : (fs14.set 17 (.int 0))[0]? = some (.int (nI v15)) := by rw [List.getElem?_set_ne (by decide)]; exact hv15
                  have hv_395 : (fs14.set 17 (.int 0))[1]? = some (.int (nI c_26)) := by rw [List.getElem?_set_ne (by decide)]; exact hv16
                  have hv_396 : (fs14.set 17 (.int 0))[11]? = some (.int (nI v17)) := by rw [List.getElem?_set_ne (by decide)]; exact hv17
                  have hv_397 : (fs14.set 17 (.int 0))[12]? = some (.int (nI v18)) := by rw [List.getElem?_set_ne (by decide)]; exact hv18
                  have hv_398 : (fs14.set 17 (.int 0))[13]? = some (.int (nI v19)) := by rw [List.getElem?_set_ne (by decide)]; exact hv19
                  have hv_399 : (fs14.set 17 (.int 0))[37]? = some (.ref v20) := by rw [List.getElem?_set_ne (by decide)]; exact hv20
                  have hb_400 : 0 ≤ 120 := by omega
                  obtain ⟨M_401, eM_401⟩ : ∃ M1 : Hp, M1 = va_up M_377 b11 (.inr (12, fs14.set 17 (.int 0))) := ⟨_, rfl⟩
                  have hV : VW K L M M_401 b11 (va_up (fx M b11) 17 (0 : Int)) (ax M b11) := by rw [eM_401]; exact hV.put hW hb_13 hM_379 hn14 rfl (by decide) rfl (by decide)
                  have hP : va_P D vwCl ([(za, .inr (13, [.int 0, .ref z1, .int (nI z2), .int (nI z3), .int z4, .int z5, .ref z6, .ref z7, .ref z8, .ref z9, .int (nI z10), .ref z11, .ref z12, .ref z13, .ref z14, .ref z15, .int (nI z16), .ref z17, .int z18, .ref z19]))] ++ va_pl L M_401) H_389 := by rw [eM_401]; exact hP
                  have hD : va_D A ([(za, .inr (13, [.int 0, .ref z1, .int (nI z2), .int (nI z3), .int z4, .int z5, .ref z6, .ref z7, .ref z8, .ref z9, .int (nI z10), .ref z11, .ref z12, .ref z13, .ref z14, .ref z15, .int (nI z16), .ref z17, .int z18, .ref z19]))] ++ va_pl L M_401) := by rw [eM_401]; exact hD
                  have hW : WOM cy K L M_401 := by rw [eM_401]; exact hW.up_12 hb_13 ⟨_, rfl, hn_393, hk_391⟩
                  have hF : fr K L [12, 14, 15, 32, 42, 45, 46, 79, 80, 81, 83] M M_401 := by rw [eM_401]; exact hF.up hb_13 (by decide)
                  have hG : fG K L [1, 7, 8, 13, 14, 15, 16, 17, 18] M M_401 := by rw [eM_401]; exact hG.up hM_379 (by decide)
                  have hM_402 : M_401 b11 = .inr (12, fs14.set 17 (.int 0)) := by rw [eM_401]; exact va_up_self _ _ _
                  refine lv_iconst (v := 0) hx hb dX13_close_137 (by decide) ?_
                  refine lv_istore (lv' := [(6, .int 0), (5, .int (-1)), (4, .int (nI c_369)), (3, .int (nI (c_26 + 1))), (2, .ref b11), (0, .ref za), (1, .int k1)]) hx hb dX13_close_138 hl (by decide) rfl (fun ls hl => ?_)
                  have key_403 : ∀ (fu_405 : Nat) (v6w406 : Nat) (M_408 : Hp) (H_409 : Heap) (locs : List Loc) (ls : Array Slot), 24 - v6w406 < fu_405 → M_408 b11 = .inr (12, fs14.set 17 (.int 0)) → v6w406 ≤ 24 → WOM cy K L M_408 → fr K L [12, 14, 15, 32, 42, 45, 46, 79, 80, 81, 83] M M_408 → fG K L [1, 7, 8, 13, 14, 15, 16, 17, 18] M M_408 → VW K L M M_408 b11 (va_up (fx M b11) 17 (0 : Int)) (ax M b11) → va_P D vwCl ([(za, .inr (13, [.int 0, .ref z1, .int (nI z2), .int (nI z3), .int z4, .int z5, .ref z6, .ref z7, .ref z8, .ref z9, .int (nI z10), .ref z11, .ref z12, .ref z13, .ref z14, .ref z15, .int (nI z16), .ref z17, .int z18, .ref z19]))] ++ va_pl L M_408) H_409 → va_D A ([(za, .inr (13, [.int 0, .ref z1, .int (nI z2), .int (nI z3), .int z4, .int z5, .ref z6, .ref z7, .ref z8, .ref z9, .int (nI z10), .ref z11, .ref z12, .ref z13, .ref z14, .ref z15, .int (nI z16), .ref z17, .int z18, .ref z19]))] ++ va_pl L M_408) → va_S A s.heap H_409 locs → lv_has ls 8 [(6, .int (nI v6w406)), (5, .int (-1)), (4, .int (nI c_369)), (3, .int (nI (c_26 + 1))), (2, .ref b11), (0, .ref za), (1, .int k1)] → W p l e R s m ([.ref za, .int k1] : List Value).toArray below meth c H_409 locs 0 0 Q (F0 m 140 ls []) := by
                    intro fu_405
                    induction fu_405 with
                    | zero => intro v6w406 M_408 H_409 locs ls h; exact absurd h (Nat.not_lt_zero _)
                    | succ fu_405 ih_404 =>
                      intro v6w406 M_408 H_409 locs ls hfu hM_410 hx_407 hW hF hG hV hP hD hS hl
                      refine lv_iload hx hb dX13_close_140 (lv_at hl 0 rfl) ?_
                      refine lv_bipush (v := 24) hx hb dX13_close_142 (by decide) ?_
                      refine lv_icmp_ge (tgt := 161) hx hb dX13_close_144 (by decide) (fun c_411 => ?_) (fun c_411 => ?_)
                      · have hz := rfl (a := 0)
                        have n_412 : 24 ≤ v6w406 := (iLE (a := 24) (b := v6w406) (by omega) (by omega)).mp c_411
                        refine lv_iload_n hx hb dX13_close_161 rfl (lv_at hl 3 rfl) ?_
                        refine lv_istore (lv' := [(6, .int (nI (c_26 + 1))), (5, .int (-1)), (4, .int (nI c_369)), (3, .int (nI (c_26 + 1))), (2, .ref b11), (0, .ref za), (1, .int k1)]) hx hb dX13_close_162 hl (by decide) rfl (fun ls hl => ?_)
                        have key_413 : ∀ (fu_415 : Nat) (v6w416 : Nat) (gnw416 : Nat) (gpw416 : Nat → Int32) (gqw416 : Nat → Int32) (M_419 : Hp) (H_420 : Heap) (locs : List Loc) (ls : Array Slot), 1001 - v6w416 < fu_415 → v6w416 ≤ c_369 + 1 → SD (c_26 + 1) gnw416 v6w416 gpw416 gqw416 → WOM cy K L M_419 → fr K L [12, 14, 15, 32, 42, 45, 46, 79, 80, 81, 83] M M_419 → fG K L [1, 7, 8, 13, 14, 15, 16, 17, 18] M M_419 → VW K L M M_419 b11 (va_up (fx M b11) 17 ((gnw416 : Nat) : Int)) (va_up (va_up (ax M b11) 44 gpw416) 45 gqw416) → va_P D vwCl ([(za, .inr (13, [.int 0, .ref z1, .int (nI z2), .int (nI z3), .int z4, .int z5, .ref z6, .ref z7, .ref z8, .ref z9, .int (nI z10), .ref z11, .ref z12, .ref z13, .ref z14, .ref z15, .int (nI z16), .ref z17, .int z18, .ref z19]))] ++ va_pl L M_419) H_420 → va_D A ([(za, .inr (13, [.int 0, .ref z1, .int (nI z2), .int (nI z3), .int z4, .int z5, .ref z6, .ref z7, .ref z8, .ref z9, .int (nI z10), .ref z11, .ref z12, .ref z13, .ref z14, .ref z15, .int (nI z16), .ref z17, .int z18, .ref z19]))] ++ va_pl L M_419) → va_S A s.heap H_420 locs → lv_has ls 8 [(6, .int (nI v6w416)), (5, .int (-1)), (4, .int (nI c_369)), (3, .int (nI (c_26 + 1))), (2, .ref b11), (0, .ref za), (1, .int k1)] → W p l e R s m ([.ref za, .int k1] : List Value).toArray below meth c H_420 locs 0 0 Q (F0 m 164 ls []) := by
                          intro fu_415
                          induction fu_415 with
                          | zero => intro v6w416 gnw416 gpw416 gqw416 M_419 H_420 locs ls h; exact absurd h (Nat.not_lt_zero _)
                          | succ fu_415 ih_414 =>
                            intro v6w416 gnw416 gpw416 gqw416 M_419 H_420 locs ls hfu hx_417 hx_418 hW hF hG hV hP hD hS hl
                            refine lv_iload hx hb dX13_close_164 (lv_at hl 0 rfl) ?_
                            refine lv_iload hx hb dX13_close_166 (lv_at hl 2 rfl) ?_
                            refine lv_icmp_gt (tgt := 238) hx hb dX13_close_168 (by decide) (fun c_421 => ?_) (fun c_421 => ?_)
                            · have hz := rfl (a := 0)
                              have n_422 : c_369 < v6w416 := (iLT (a := c_369) (b := v6w416) (by omega) (by omega)).mp c_421
                              obtain ⟨fs423, hM423, hn423, hl423⟩ := hW.open_12 hb_13
                              obtain ⟨v424, hv424, hc424⟩ : ∃ v : Nat, fs423[17]? = some (.int (nI v) : Value) ∧ v ≤ 120 := hl423 17 (by decide)
                              have hx17 : ((gnw416 : Nat) : Int) = ((v424 : Nat) : Int) := (congrFun hV.2.1 17).symm.trans ((fx_of hM423 rfl hv424).trans (nI_toInt (by omega)))
                              have hSD := hx_418
                              obtain ⟨hs1, hs2, hs3, hs4⟩ := hx_418
                              have hNn : 1 ≤ gnw416 ∧ 1 ≤ (gqw416 0).toInt := by rcases hs3 with q | q <;> first | exact q | omega
                              have hN1 := hNn.1
                              have hs45 := hNn.2
                              refine lv_aload_n hx hb dX13_close_238 rfl (lv_at hl 4 rfl) ?_
                              refine pg_getN (D := D) (ci := 12) (v := .int (nI v424)) (C := RX12) (T := TX12) (N := 51) hx hb hg inG12 hown hK hP hb_13.1 hM423 rfl 17 (by decide) (hN.use (Cond.fieldLinkNest RX13 256 RX12 "stretches" "I" RX13) 26 rfl rfl) (fun _ h9 => h9) hv424 dX13_close_239 ?_
                              refine lv_istore (lv' := [(6, .int (nI v424)), (5, .int (-1)), (4, .int (nI c_369)), (3, .int (nI (c_26 + 1))), (2, .ref b11), (0, .ref za), (1, .int k1)]) hx hb dX13_close_242 hl (by decide) rfl (fun ls hl => ?_)
                              refine lv_aload_n hx hb dX13_close_244 rfl (lv_at hl 5 rfl) ?_
                              refine lv_aload_n hx hb dX13_close_245 rfl (lv_at hl 4 rfl) ?_
                              refine lv_iload hx hb dX13_close_246 (lv_at hl 0 rfl) ?_
                              have hPc : va_P D vwCl ([(za, .inr (13, [.int 0, .ref z1, .int (nI z2), .int (nI z3), .int z4, .int z5, .ref z6, .ref z7, .ref z8, .ref z9, .int (nI z10), .ref z11, .ref z12, .ref z13, .ref z14, .ref z15, .int (nI z16), .ref z17, .int z18, .ref z19]))] ++ va_pl L M_419) H_420 := hP
                              have hDc : va_D A ([(za, .inr (13, [.int 0, .ref z1, .int (nI z2), .int (nI z3), .int z4, .int z5, .ref z6, .ref z7, .ref z8, .ref z9, .int (nI z10), .ref z11, .ref z12, .ref z13, .ref z14, .ref z15, .int (nI z16), .ref z17, .int z18, .ref z19]))] ++ va_pl L M_419) := hD
                              have hFc : ∀ q, va_A ([(za, .inr (13, [.int 0, .ref z1, .int (nI z2), .int (nI z3), .int z4, .int z5, .ref z6, .ref z7, .ref z8, .ref z9, .int (nI z10), .ref z11, .ref z12, .ref z13, .ref z14, .ref z15, .int (nI z16), .ref z17, .int z18, .ref z19]))] ++ va_pl L M_419) H_420.size q → A q := pg_free hDc hS hA
                              refine va_callv (va_runV (As := [.ref b11, .int (nI v424)]) (rest := []) ⟨hx, hb, hml, hown, hg⟩ (g_X13_looses l D cy K L M_419 H_420.size za 0 z1 z2 z3 z4 z5 z6 z7 z8 z9 z10 z11 z12 z13 z14 z15 z16 z17 z18 z19 b11 v424  hW i1 b2 b3 i6 i7 i8 i9 b10 i11 i12 i13 i14 i15 b16 i17 i19 hb_13 (by omega) hV.2.2.2 (by omega) (by rw [hV.2.2.1]; exact hs45)) (cwV 2 hg (gV wd_857 wd_858 wd_859 wd_717 wd_860) rfl rfl rfl (by decide +kernel) ⟨(Nat.le_trans (Nat.le_of_ble_eq_true rfl) hRf), (Nat.le_trans (Nat.le_of_ble_eq_true rfl) hRl)⟩) ⟨PG.blind, va_recv hK hP (ci := 13) (q0 := 0) rfl rfl, fun U hU hW => ⟨rfl, PG.at hPc hK hDc hN hU hW⟩⟩ rfl rfl hl.1 rfl (lv_room (Nat.le_of_ble_eq_true rfl)) dX13_close_248 ⟨(Nat.le_trans (Nat.le_of_ble_eq_true rfl) hRc), (Nat.le_trans (Nat.le_of_ble_eq_true rfl) hRs)⟩) hS (fun q _ h => hFc q h) hFc (fun M_427 t H_425 locs ht hvm hw hB hz1 hk1 hS => ?_)
                              have hWb := hW
                              obtain ⟨hW, hF2, hG2, hp_428⟩ := hw
                              obtain ⟨hP1, hD1⟩ := hB
                              rw [ht] at hP1
                              have hP : va_P D vwCl ([(za, .inr (13, [.int 0, .ref z1, .int (nI z2), .int (nI z3), .int z4, .int z5, .ref z6, .ref z7, .ref z8, .ref z9, .int (nI z10), .ref z11, .ref z12, .ref z13, .ref z14, .ref z15, .int (nI z16), .ref z17, .int z18, .ref z19]))] ++ va_pl L M_427) H_425 := hP1
                              have hD : va_D A ([(za, .inr (13, [.int 0, .ref z1, .int (nI z2), .int (nI z3), .int z4, .int z5, .ref z6, .ref z7, .ref z8, .ref z9, .int (nI z10), .ref z11, .ref z12, .ref z13, .ref z14, .ref z15, .int (nI z16), .ref z17, .int z18, .ref z19]))] ++ va_pl L M_427) := hD1.mono hFc
                              have hM_429 : M_427 b11 = .inr (12, fs423) := (hF2.at hb_13 (by decide)).trans hM423
                              have hF : fr K L [12, 14, 15, 32, 42, 45, 46, 79, 80, 81, 83] M M_427 := hF.tr hF2 (by decide)
                              have hG : fG K L [1, 7, 8, 13, 14, 15, 16, 17, 18] M M_427 := hG.tr hWb hG2 (by decide)
                              have hV : VW K L M M_427 b11 (va_up (fx M b11) 17 ((gnw416 : Nat) : Int)) (va_up (va_up (ax M b11) 44 gpw416) 45 gqw416) := hV.cal hWb hW hF2 hG2 (by decide) (by decide) hb_13
                              refine lv_iconst (v := 0) hx hb dX13_close_251 (by decide) ?_
                              refine lv_istore (lv' := [(7, .int 0), (6, .int (nI v424)), (5, .int (-1)), (4, .int (nI c_369)), (3, .int (nI (c_26 + 1))), (2, .ref b11), (0, .ref za), (1, .int k1)]) hx hb dX13_close_252 hl (by decide) rfl (fun ls hl => ?_)
                              have key_430 : ∀ (fu_432 : Nat) (v7w433 : Nat) (zgw433 : Nat) (M_436 : Hp) (H_437 : Heap) (locs : List Loc) (ls : Array Slot), 1001 - v7w433 < fu_432 → v7w433 ≤ v424 → zgw433 ≤ 24 → WOM cy K L M_436 → fr K L [12, 14, 15, 32, 42, 45, 46, 79, 80, 81, 83] M M_436 → fG K L [1, 7, 8, 13, 14, 15, 16, 17, 18] M M_436 → VW K L M M_436 b11 (va_up (fx M b11) 17 ((gnw416 : Nat) : Int)) (va_up (va_up (ax M b11) 44 gpw416) 45 gqw416) → va_P D vwCl ([(za, .inr (13, [.int 0, .ref z1, .int (nI z2), .int (nI z3), .int z4, .int z5, .ref z6, .ref z7, .ref z8, .ref z9, .int (nI z10), .ref z11, .ref z12, .ref z13, .ref z14, .ref z15, .int (nI zgw433), .ref z17, .int z18, .ref z19]))] ++ va_pl L M_436) H_437 → va_D A ([(za, .inr (13, [.int 0, .ref z1, .int (nI z2), .int (nI z3), .int z4, .int z5, .ref z6, .ref z7, .ref z8, .ref z9, .int (nI z10), .ref z11, .ref z12, .ref z13, .ref z14, .ref z15, .int (nI zgw433), .ref z17, .int z18, .ref z19]))] ++ va_pl L M_436) → va_S A s.heap H_437 locs → lv_has ls 8 [(7, .int (nI v7w433)), (6, .int (nI v424)), (5, .int (-1)), (4, .int (nI c_369)), (3, .int (nI (c_26 + 1))), (2, .ref b11), (0, .ref za), (1, .int k1)] → W p l e R s m ([.ref za, .int k1] : List Value).toArray below meth c H_437 locs 0 0 Q (F0 m 254 ls []) := by
                                intro fu_432
                                induction fu_432 with
                                | zero => intro v7w433 zgw433 M_436 H_437 locs ls h; exact absurd h (Nat.not_lt_zero _)
                                | succ fu_432 ih_431 =>
                                  intro v7w433 zgw433 M_436 H_437 locs ls hfu hx_434 hx_435 hW hF hG hV hP hD hS hl
                                  refine lv_iload hx hb dX13_close_254 (lv_at hl 0 rfl) ?_
                                  refine lv_iload hx hb dX13_close_256 (lv_at hl 1 rfl) ?_
                                  refine lv_icmp_ge (tgt := 275) hx hb dX13_close_258 (by decide) (fun c_438 => ?_) (fun c_438 => ?_)
                                  · have hz := rfl (a := 0)
                                    have n_439 : v424 ≤ v7w433 := (iLE (a := v424) (b := v7w433) (by omega) (by omega)).mp c_438
                                    refine lv_iconst (v := 0) hx hb dX13_close_275 (by decide) ?_
                                    refine lv_istore (lv' := [(7, .int 0), (6, .int (nI v424)), (5, .int (-1)), (4, .int (nI c_369)), (3, .int (nI (c_26 + 1))), (2, .ref b11), (0, .ref za), (1, .int k1)]) hx hb dX13_close_276 hl (by decide) rfl (fun ls hl => ?_)
                                    have key_440 : ∀ (fu_442 : Nat) (v7w443 : Nat) (zgw443 : Nat) (gnw443 : Nat) (gpw443 : Nat → Int32) (gqw443 : Nat → Int32) (M_447 : Hp) (H_448 : Heap) (locs : List Loc) (ls : Array Slot), 24 - v7w443 < fu_442 → v7w443 ≤ 20 → zgw443 ≤ 24 → gnw443 ≤ 100 + v7w443 → WOM cy K L M_447 → fr K L [12, 14, 15, 32, 42, 45, 46, 79, 80, 81, 83] M M_447 → fG K L [1, 7, 8, 13, 14, 15, 16, 17, 18] M M_447 → VW K L M M_447 b11 (va_up (fx M b11) 17 ((gnw443 : Nat) : Int)) (va_up (va_up (ax M b11) 44 gpw443) 45 gqw443) → va_P D vwCl ([(za, .inr (13, [.int 0, .ref z1, .int (nI z2), .int (nI z3), .int z4, .int z5, .ref z6, .ref z7, .ref z8, .ref z9, .int (nI z10), .ref z11, .ref z12, .ref z13, .ref z14, .ref z15, .int (nI zgw443), .ref z17, .int z18, .ref z19]))] ++ va_pl L M_447) H_448 → va_D A ([(za, .inr (13, [.int 0, .ref z1, .int (nI z2), .int (nI z3), .int z4, .int z5, .ref z6, .ref z7, .ref z8, .ref z9, .int (nI z10), .ref z11, .ref z12, .ref z13, .ref z14, .ref z15, .int (nI zgw443), .ref z17, .int z18, .ref z19]))] ++ va_pl L M_447) → va_S A s.heap H_448 locs → lv_has ls 8 [(7, .int (nI v7w443)), (6, .int (nI v424)), (5, .int (-1)), (4, .int (nI c_369)), (3, .int (nI (c_26 + 1))), (2, .ref b11), (0, .ref za), (1, .int k1)] → W p l e R s m ([.ref za, .int k1] : List Value).toArray below meth c H_448 locs 0 0 Q (F0 m 278 ls []) := by
                                      intro fu_442
                                      induction fu_442 with
                                      | zero => intro v7w443 zgw443 gnw443 gpw443 gqw443 M_447 H_448 locs ls h; exact absurd h (Nat.not_lt_zero _)
                                      | succ fu_442 ih_441 =>
                                        intro v7w443 zgw443 gnw443 gpw443 gqw443 M_447 H_448 locs ls hfu hx_444 hx_445 hx_446 hW hF hG hV hP hD hS hl
                                        refine lv_iload hx hb dX13_close_278 (lv_at hl 0 rfl) ?_
                                        refine lv_aload_n hx hb dX13_close_280 rfl (lv_at hl 5 rfl) ?_
                                        obtain ⟨fs449, hM449, hn449, hl449⟩ := hW.open_12 hb_13
                                        obtain ⟨v450, hv450, hc450⟩ : ∃ v : Nat, fs449[15]? = some (.int (nI v) : Value) ∧ v ≤ 20 := hl449 15 (by decide)
                                        refine pg_getN (D := D) (ci := 12) (v := .int (nI v450)) (C := RX12) (T := TX12) (N := 51) hx hb hg inG12 hown hK hP hb_13.1 hM449 rfl 15 (by decide) (hN.use (Cond.fieldLinkNest RX13 279 RX12 "mends" "I" RX13) 24 rfl rfl) (fun _ h9 => h9) hv450 dX13_close_281 ?_
                                        refine lv_icmp_ge (tgt := 300) hx hb dX13_close_284 (by decide) (fun c_451 => ?_) (fun c_451 => ?_)
                                        · have hz := rfl (a := 0)
                                          have n_452 : v450 ≤ v7w443 := (iLE (a := v450) (b := v7w443) (by omega) (by omega)).mp c_451
                                          refine lv_aload_n hx hb dX13_close_300 rfl (lv_at hl 5 rfl) ?_
                                          refine lv_iload_n hx hb dX13_close_301 rfl (lv_at hl 4 rfl) ?_
                                          refine lv_iload hx hb dX13_close_302 (lv_at hl 3 rfl) ?_
                                          have hPc : va_P D vwCl ([] ++ va_pl L M_447) H_448 := hP.part (cx := []) [] rfl
                                          have hDc : va_D A ([] ++ va_pl L M_447) := hD.part (cx := []) [] (by decide) rfl
                                          have hFc : ∀ q, va_A ([] ++ va_pl L M_447) H_448.size q → A q := pg_free hDc hS hA
                                          refine va_callv (va_runS (As := [.ref b11, .int (nI (c_26 + 1)), .int (nI c_369)]) (rest := []) ⟨hx, hb, hml, hown, hg⟩ (r_settled2 l D cy K L M_447 H_448.size b11 (nI (c_26 + 1)) (nI c_369)  hW hb_13 hV.2.2.2) (va_cwS 3 hg (gS wd_861 wd_862 wd_717 wd_863) rfl rfl rfl (by decide +kernel) ⟨(Nat.le_trans (Nat.le_of_ble_eq_true rfl) hRf), (Nat.le_trans (Nat.le_of_ble_eq_true rfl) hRl)⟩) ⟨PG.blind, fun U hU hW => ⟨rfl, PG.at hPc hK hDc hN hU hW⟩⟩ rfl rfl hl.1 rfl (lv_room (Nat.le_of_ble_eq_true rfl)) dX13_close_304 ⟨(Nat.le_trans (Nat.le_of_ble_eq_true rfl) hRc), (Nat.le_trans (Nat.le_of_ble_eq_true rfl) hRs)⟩) hS (fun q _ h => hFc q h) hFc (fun M_455 t H_453 locs ht hvm hw hB hz1 hk1 hS => ?_)
                                          have hWb := hW
                                          obtain ⟨hW, hF2, hG2, hVP, hp_456⟩ := hw
                                          obtain ⟨hP1, hD1⟩ := hB
                                          rw [ht] at hP1
                                          obtain ⟨hP, hD⟩ := va_joinP (X := [(za, .inr (13, [.int 0, .ref z1, .int (nI z2), .int (nI z3), .int z4, .int z5, .ref z6, .ref z7, .ref z8, .ref z9, .int (nI z10), .ref z11, .ref z12, .ref z13, .ref z14, .ref z15, .int (nI zgw443), .ref z17, .int z18, .ref z19]))]) (cx := []) (wr := [(za, .inr (13, [.int 0, .ref z1, .int (nI z2), .int (nI z3), .int z4, .int z5, .ref z6, .ref z7, .ref z8, .ref z9, .int (nI z10), .ref z11, .ref z12, .ref z13, .ref z14, .ref z15, .int (nI zgw443), .ref z17, .int z18, .ref z19]))]) (rx := []) (pl := va_pl L M_447) (pl1 := va_pl L M_455) hP hD [] [0] rfl rfl (by decide) (by decide) hk1 hFc hP1 hD1
                                          have hP : va_P D vwCl ([(za, .inr (13, [.int 0, .ref z1, .int (nI z2), .int (nI z3), .int z4, .int z5, .ref z6, .ref z7, .ref z8, .ref z9, .int (nI z10), .ref z11, .ref z12, .ref z13, .ref z14, .ref z15, .int (nI zgw443), .ref z17, .int z18, .ref z19]))] ++ va_pl L M_455) H_453 := hP
                                          have hD : va_D A ([(za, .inr (13, [.int 0, .ref z1, .int (nI z2), .int (nI z3), .int z4, .int z5, .ref z6, .ref z7, .ref z8, .ref z9, .int (nI z10), .ref z11, .ref z12, .ref z13, .ref z14, .ref z15, .int (nI zgw443), .ref z17, .int z18, .ref z19]))] ++ va_pl L M_455) := hD
                                          obtain ⟨fs457, hM457, hn457, hl457⟩ := hW.open_12 hb_13
                                          have hv_458 : fs457[15]? = some (.int (nI v450) : Value) := (hG2 _ hb_13 _ _ hM449 hM457 15 (by decide)).trans hv450
                                          have hF : fr K L [12, 14, 15, 32, 42, 45, 46, 79, 80, 81, 83] M M_455 := hF.tr hF2 (by decide)
                                          have hG : fG K L [1, 7, 8, 13, 14, 15, 16, 17, 18] M M_455 := hG.tr hWb hG2 (by decide)
                                          obtain ⟨n_459, p_460, q_461, r_462, n_463, h8, hle8, htr8, hV2⟩ := hVP
                                          rw [hV.2.1] at h8
                                          rw [hV.2.2.1] at htr8
                                          rw [hV.2.1, hV.2.2.1] at hV2
                                          have hn14 : (0 : Int) ≤ ((n_459 : Nat) : Int) := by omega
                                          have hV : VW K L M M_455 b11 (va_up (va_up (fx M b11) 17 ((gnw443 : Nat) : Int)) 14 ((n_459 : Nat) : Int)) (va_up (va_up (va_up (va_up (va_up (ax M b11) 44 gpw443) 45 gqw443) 38 p_460) 39 q_461) 40 r_462) := hV.tr hV2
                                          refine lv_aload_n hx hb dX13_close_307 rfl (lv_at hl 5 rfl) ?_
                                          refine lv_lconst (v := 0) hx hb dX13_close_308 (by decide) ?_
                                          refine pg_putN (D := D) (ci := 12) (v := .long 0) (ty := .long) (C := RX12) (T := TX12) (N := 51) hx hb hg inG12 tyX12 tyX12_ok nmX12 hown hK hP hD hS hb_13.1 hM457 rfl 7 (by decide) (hN.use (Cond.fieldLinkNest RX13 179 RX12 "loose" "J" RX13) 16 rfl rfl) (fun _ h9 => h9) rfl (by decide +kernel) rfl rfl (by rw [hn457]; decide) dX13_close_309 (fun H_464 locs hP hD hS => ?_)
                                          have hs_467 : (fs457.set 7 (.long 0))[7]? = some (.long 0) := List.getElem?_set_self (by rw [hn457]; decide)
                                          have hk_466 := fld12_set (k := 7) (w := .long 0) hl457 (show fld12 K L 7 (fs457.set 7 (.long 0)) from ⟨0, hs_467⟩)
                                          have hn_468 : (fs457.set 7 (.long 0)).length = 51 := by rw [List.length_set]; exact hn457
                                          have hv_469 : (fs457.set 7 (.long 0))[15]? = some (.int (nI v450)) := by rw [List.getElem?_set_ne (by decide)]; exact hv_458
                                          obtain ⟨M_470, eM_470⟩ : ∃ M1 : Hp, M1 = va_up M_455 b11 (.inr (12, fs457.set 7 (.long 0))) := ⟨_, rfl⟩
                                          have hV : VW K L M M_470 b11 (va_up (va_up (fx M b11) 17 ((gnw443 : Nat) : Int)) 14 ((n_459 : Nat) : Int)) (va_up (va_up (va_up (va_up (va_up (ax M b11) 44 gpw443) 45 gqw443) 38 p_460) 39 q_461) 40 r_462) := by rw [eM_470]; exact hV.put0 hW hb_13 hM457 rfl rfl
                                          have hP : va_P D vwCl ([(za, .inr (13, [.int 0, .ref z1, .int (nI z2), .int (nI z3), .int z4, .int z5, .ref z6, .ref z7, .ref z8, .ref z9, .int (nI z10), .ref z11, .ref z12, .ref z13, .ref z14, .ref z15, .int (nI zgw443), .ref z17, .int z18, .ref z19]))] ++ va_pl L M_470) H_464 := by rw [eM_470]; exact hP
                                          have hD : va_D A ([(za, .inr (13, [.int 0, .ref z1, .int (nI z2), .int (nI z3), .int z4, .int z5, .ref z6, .ref z7, .ref z8, .ref z9, .int (nI z10), .ref z11, .ref z12, .ref z13, .ref z14, .ref z15, .int (nI zgw443), .ref z17, .int z18, .ref z19]))] ++ va_pl L M_470) := by rw [eM_470]; exact hD
                                          have hW : WOM cy K L M_470 := by rw [eM_470]; exact hW.up_12 hb_13 ⟨_, rfl, hn_468, hk_466⟩
                                          have hF : fr K L [12, 14, 15, 32, 42, 45, 46, 79, 80, 81, 83] M M_470 := by rw [eM_470]; exact hF.up hb_13 (by decide)
                                          have hG : fG K L [1, 7, 8, 13, 14, 15, 16, 17, 18] M M_470 := by rw [eM_470]; exact hG.up hM457 (by decide)
                                          have hM_471 : M_470 b11 = .inr (12, fs457.set 7 (.long 0)) := by rw [eM_470]; exact va_up_self _ _ _
                                          refine lv_aload_n hx hb dX13_close_312 rfl (lv_at hl 5 rfl) ?_
                                          refine lv_iconst (v := 0) hx hb dX13_close_313 (by decide) ?_
                                          refine pg_putN (D := D) (ci := 12) (v := .int 0) (ty := .int) (C := RX12) (T := TX12) (N := 51) hx hb hg inG12 tyX12 tyX12_ok nmX12 hown hK hP hD hS hb_13.1 hM_471 rfl 15 (by decide) (hN.use (Cond.fieldLinkNest RX13 279 RX12 "mends" "I" RX13) 24 rfl rfl) (fun _ h9 => h9) rfl (by decide +kernel) rfl rfl (by rw [hn_468]; decide) dX13_close_314 (fun H_472 locs hP hD hS => ?_)
                                          have hs_475 : ((fs457.set 7 (.long 0)).set 15 (.int 0))[15]? = some (.int (nI 0)) := List.getElem?_set_self (by rw [hn_468]; decide)
                                          have hk_474 := fld12_set (k := 15) (w := .int 0) hk_466 (show fld12 K L 15 ((fs457.set 7 (.long 0)).set 15 (.int 0)) from ⟨0, hs_475, by omega⟩)
                                          have hn_476 : ((fs457.set 7 (.long 0)).set 15 (.int 0)).length = 51 := by rw [List.length_set]; exact hn_468
                                          have hv_477 : ((fs457.set 7 (.long 0)).set 15 (.int 0))[7]? = some (.long 0) := by rw [List.getElem?_set_ne (by decide)]; exact hs_467
                                          have hb_478 : 0 ≤ 20 := by omega
                                          obtain ⟨M_479, eM_479⟩ : ∃ M1 : Hp, M1 = va_up M_470 b11 (.inr (12, (fs457.set 7 (.long 0)).set 15 (.int 0))) := ⟨_, rfl⟩
                                          have hx15 : (fx M b11 15) = ((v450 : Nat) : Int) := (congrFun hV.2.1 15).symm.trans ((fx_of hM_471 rfl hv_469).trans (nI_toInt (by omega)))
                                          have hV : VW K L M M_479 b11 (va_up (va_up (va_up (fx M b11) 17 ((gnw443 : Nat) : Int)) 14 ((n_459 : Nat) : Int)) 15 (0 : Int)) (va_up (va_up (va_up (va_up (va_up (ax M b11) 44 gpw443) 45 gqw443) 38 p_460) 39 q_461) 40 r_462) := by rw [eM_479]; exact hV.put hW hb_13 hM_471 hn_468 rfl (by decide) rfl (by decide)
                                          have hP : va_P D vwCl ([(za, .inr (13, [.int 0, .ref z1, .int (nI z2), .int (nI z3), .int z4, .int z5, .ref z6, .ref z7, .ref z8, .ref z9, .int (nI z10), .ref z11, .ref z12, .ref z13, .ref z14, .ref z15, .int (nI zgw443), .ref z17, .int z18, .ref z19]))] ++ va_pl L M_479) H_472 := by rw [eM_479]; exact hP
                                          have hD : va_D A ([(za, .inr (13, [.int 0, .ref z1, .int (nI z2), .int (nI z3), .int z4, .int z5, .ref z6, .ref z7, .ref z8, .ref z9, .int (nI z10), .ref z11, .ref z12, .ref z13, .ref z14, .ref z15, .int (nI zgw443), .ref z17, .int z18, .ref z19]))] ++ va_pl L M_479) := by rw [eM_479]; exact hD
                                          have hW : WOM cy K L M_479 := by rw [eM_479]; exact hW.up_12 hb_13 ⟨_, rfl, hn_476, hk_474⟩
                                          have hF : fr K L [12, 14, 15, 32, 42, 45, 46, 79, 80, 81, 83] M M_479 := by rw [eM_479]; exact hF.up hb_13 (by decide)
                                          have hG : fG K L [1, 7, 8, 13, 14, 15, 16, 17, 18] M M_479 := by rw [eM_479]; exact hG.up hM_471 (by decide)
                                          have hM_480 : M_479 b11 = .inr (12, (fs457.set 7 (.long 0)).set 15 (.int 0)) := by rw [eM_479]; exact va_up_self _ _ _
                                          refine lv_aload_n hx hb dX13_close_317 rfl (lv_at hl 5 rfl) ?_
                                          refine lv_iconst (v := 0) hx hb dX13_close_318 (by decide) ?_
                                          refine pg_putN (D := D) (ci := 12) (v := .int 0) (ty := .int) (C := RX12) (T := TX12) (N := 51) hx hb hg inG12 tyX12 tyX12_ok nmX12 hown hK hP hD hS hb_13.1 hM_480 rfl 16 (by decide) (hN.use (Cond.fieldLinkNest RX13 161 RX12 "undone" "I" RX13) 25 rfl rfl) (fun _ h9 => h9) rfl (by decide +kernel) rfl rfl (by rw [hn_476]; decide) dX13_close_319 (fun H_481 locs hP hD hS => ?_)
                                          have hs_484 : (((fs457.set 7 (.long 0)).set 15 (.int 0)).set 16 (.int 0))[16]? = some (.int (nI 0)) := List.getElem?_set_self (by rw [hn_476]; decide)
                                          have hk_483 := fld12_set (k := 16) (w := .int 0) hk_474 (show fld12 K L 16 (((fs457.set 7 (.long 0)).set 15 (.int 0)).set 16 (.int 0)) from ⟨0, hs_484, by omega⟩)
                                          have hn_485 : (((fs457.set 7 (.long 0)).set 15 (.int 0)).set 16 (.int 0)).length = 51 := by rw [List.length_set]; exact hn_476
                                          have hv_486 : (((fs457.set 7 (.long 0)).set 15 (.int 0)).set 16 (.int 0))[7]? = some (.long 0) := by rw [List.getElem?_set_ne (by decide)]; exact hv_477
                                          have hv_487 : (((fs457.set 7 (.long 0)).set 15 (.int 0)).set 16 (.int 0))[15]? = some (.int (nI 0)) := by rw [List.getElem?_set_ne (by decide)]; exact hs_475
                                          have hb_488 : 0 ≤ 60 := by omega
                                          obtain ⟨M_489, eM_489⟩ : ∃ M1 : Hp, M1 = va_up M_479 b11 (.inr (12, ((fs457.set 7 (.long 0)).set 15 (.int 0)).set 16 (.int 0))) := ⟨_, rfl⟩
                                          have hV : VW K L M M_489 b11 (va_up (va_up (va_up (va_up (fx M b11) 17 ((gnw443 : Nat) : Int)) 14 ((n_459 : Nat) : Int)) 15 (0 : Int)) 16 (0 : Int)) (va_up (va_up (va_up (va_up (va_up (ax M b11) 44 gpw443) 45 gqw443) 38 p_460) 39 q_461) 40 r_462) := by rw [eM_489]; exact hV.put hW hb_13 hM_480 hn_476 rfl (by decide) rfl (by decide)
                                          have hP : va_P D vwCl ([(za, .inr (13, [.int 0, .ref z1, .int (nI z2), .int (nI z3), .int z4, .int z5, .ref z6, .ref z7, .ref z8, .ref z9, .int (nI z10), .ref z11, .ref z12, .ref z13, .ref z14, .ref z15, .int (nI zgw443), .ref z17, .int z18, .ref z19]))] ++ va_pl L M_489) H_481 := by rw [eM_489]; exact hP
                                          have hD : va_D A ([(za, .inr (13, [.int 0, .ref z1, .int (nI z2), .int (nI z3), .int z4, .int z5, .ref z6, .ref z7, .ref z8, .ref z9, .int (nI z10), .ref z11, .ref z12, .ref z13, .ref z14, .ref z15, .int (nI zgw443), .ref z17, .int z18, .ref z19]))] ++ va_pl L M_489) := by rw [eM_489]; exact hD
                                          have hW : WOM cy K L M_489 := by rw [eM_489]; exact hW.up_12 hb_13 ⟨_, rfl, hn_485, hk_483⟩
                                          have hF : fr K L [12, 14, 15, 32, 42, 45, 46, 79, 80, 81, 83] M M_489 := by rw [eM_489]; exact hF.up hb_13 (by decide)
                                          have hG : fG K L [1, 7, 8, 13, 14, 15, 16, 17, 18] M M_489 := by rw [eM_489]; exact hG.up hM_480 (by decide)
                                          have hM_490 : M_489 b11 = .inr (12, ((fs457.set 7 (.long 0)).set 15 (.int 0)).set 16 (.int 0)) := by rw [eM_489]; exact va_up_self _ _ _
                                          refine lv_aload_n hx hb dX13_close_322 rfl (lv_at hl 5 rfl) ?_
                                          refine lv_iload hx hb dX13_close_323 (lv_at hl 3 rfl) ?_
                                          refine pg_putN (D := D) (ci := 12) (v := .int (nI c_369)) (ty := .int) (C := RX12) (T := TX12) (N := 51) hx hb hg inG12 tyX12 tyX12_ok nmX12 hown hK hP hD hS hb_13.1 hM_490 rfl 1 (by decide) (hN.use (Cond.fieldLinkNest RX13 80 RX12 "to" "I" RX13) 10 rfl rfl) (fun _ h9 => h9) rfl (by decide +kernel) rfl rfl (by rw [hn_485]; decide) dX13_close_325 (fun H_491 locs hP hD hS => ?_)
                                          have hs_494 : ((((fs457.set 7 (.long 0)).set 15 (.int 0)).set 16 (.int 0)).set 1 (.int (nI c_369)))[1]? = some (.int (nI c_369)) := List.getElem?_set_self (by rw [hn_485]; decide)
                                          have hk_493 := fld12_set (k := 1) (w := .int (nI c_369)) hk_483 (show fld12 K L 1 ((((fs457.set 7 (.long 0)).set 15 (.int 0)).set 16 (.int 0)).set 1 (.int (nI c_369))) from ⟨(nI c_369), hs_494, Or.inr ⟨c_369, by omega, rfl⟩⟩)
                                          have hn_495 : ((((fs457.set 7 (.long 0)).set 15 (.int 0)).set 16 (.int 0)).set 1 (.int (nI c_369))).length = 51 := by rw [List.length_set]; exact hn_485
                                          have hv_496 : ((((fs457.set 7 (.long 0)).set 15 (.int 0)).set 16 (.int 0)).set 1 (.int (nI c_369)))[7]? = some (.long 0) := by rw [List.getElem?_set_ne (by decide)]; exact hv_486
                                          have hv_497 : ((((fs457.set 7 (.long 0)).set 15 (.int 0)).set 16 (.int 0)).set 1 (.int (nI c_369)))[15]? = some (.int (nI 0)) := by rw [List.getElem?_set_ne (by decide)]; exact hv_487
                                          have hv_498 : ((((fs457.set 7 (.long 0)).set 15 (.int 0)).set 16 (.int 0)).set 1 (.int (nI c_369)))[16]? = some (.int (nI 0)) := by rw [List.getElem?_set_ne (by decide)]; exact hs_484
                                          obtain ⟨M_499, eM_499⟩ : ∃ M1 : Hp, M1 = va_up M_489 b11 (.inr (12, (((fs457.set 7 (.long 0)).set 15 (.int 0)).set 16 (.int 0)).set 1 (.int (nI c_369)))) := ⟨_, rfl⟩
                                          have hV : VW K L M M_499 b11 (va_up (va_up (va_up (va_up (va_up (fx M b11) 17 ((gnw443 : Nat) : Int)) 14 ((n_459 : Nat) : Int)) 15 (0 : Int)) 16 (0 : Int)) 1 ((c_369 : Nat) : Int)) (va_up (va_up (va_up (va_up (va_up (ax M b11) 44 gpw443) 45 gqw443) 38 p_460) 39 q_461) 40 r_462) := by rw [eM_499]; exact hV.put hW hb_13 hM_490 hn_485 rfl (by decide) rfl (nI_toInt (by omega))
                                          have hP : va_P D vwCl ([(za, .inr (13, [.int 0, .ref z1, .int (nI z2), .int (nI z3), .int z4, .int z5, .ref z6, .ref z7, .ref z8, .ref z9, .int (nI z10), .ref z11, .ref z12, .ref z13, .ref z14, .ref z15, .int (nI zgw443), .ref z17, .int z18, .ref z19]))] ++ va_pl L M_499) H_491 := by rw [eM_499]; exact hP
                                          have hD : va_D A ([(za, .inr (13, [.int 0, .ref z1, .int (nI z2), .int (nI z3), .int z4, .int z5, .ref z6, .ref z7, .ref z8, .ref z9, .int (nI z10), .ref z11, .ref z12, .ref z13, .ref z14, .ref z15, .int (nI zgw443), .ref z17, .int z18, .ref z19]))] ++ va_pl L M_499) := by rw [eM_499]; exact hD
                                          have hW : WOM cy K L M_499 := by rw [eM_499]; exact hW.up_12 hb_13 ⟨_, rfl, hn_495, hk_493⟩
                                          have hF : fr K L [12, 14, 15, 32, 42, 45, 46, 79, 80, 81, 83] M M_499 := by rw [eM_499]; exact hF.up hb_13 (by decide)
                                          have hG : fG K L [1, 7, 8, 13, 14, 15, 16, 17, 18] M M_499 := by rw [eM_499]; exact hG.up hM_490 (by decide)
                                          have hM_500 : M_499 b11 = .inr (12, (((fs457.set 7 (.long 0)).set 15 (.int 0)).set 16 (.int 0)).set 1 (.int (nI c_369))) := by rw [eM_499]; exact va_up_self _ _ _
                                          refine lv_aload_n hx hb dX13_close_328 rfl (lv_at hl 5 rfl) ?_
                                          refine lv_dup hx hb dX13_close_329 rfl ?_
                                          obtain ⟨v501, hv501, hc501⟩ : ∃ v : Nat, ((((fs457.set 7 (.long 0)).set 15 (.int 0)).set 16 (.int 0)).set 1 (.int (nI c_369)))[13]? = some (.int (nI v) : Value) ∧ v ≤ 12 := hk_493 13 (by decide)
                                          refine pg_getN (D := D) (ci := 12) (v := .int (nI v501)) (C := RX12) (T := TX12) (N := 51) hx hb hg inG12 hown hK hP hb_13.1 hM_500 rfl 13 (by decide) (hN.use (Cond.fieldLinkNest RX13 244 RX12 "closed" "I" RX13) 22 rfl rfl) (fun _ h9 => h9) hv501 dX13_close_330 ?_
                                          have hx13 : (fx M b11 13) = ((v501 : Nat) : Int) := (congrFun hV.2.1 13).symm.trans ((fx_of hM_500 rfl hv501).trans (nI_toInt (by omega)))
                                          refine lv_iconst (v := 1) hx hb dX13_close_333 (by decide) ?_
                                          refine lv_iadd hx hb dX13_close_334 ?_
                                          refine lv_topi (fun f_502 ef_502 => ?_)
                                          obtain rfl : f_502 = (nI (v501 + 1)) := ef_502.trans (nI_add v501 1)
                                          refine pg_putN (D := D) (ci := 12) (v := .int (nI (v501 + 1))) (ty := .int) (C := RX12) (T := TX12) (N := 51) hx hb hg inG12 tyX12 tyX12_ok nmX12 hown hK hP hD hS hb_13.1 hM_500 rfl 13 (by decide) (hN.use (Cond.fieldLinkNest RX13 244 RX12 "closed" "I" RX13) 22 rfl rfl) (fun _ h9 => h9) rfl (by decide +kernel) rfl rfl (by rw [hn_495]; decide) dX13_close_335 (fun H_503 locs hP hD hS => ?_)
                                          have hs_506 : (((((fs457.set 7 (.long 0)).set 15 (.int 0)).set 16 (.int 0)).set 1 (.int (nI c_369))).set 13 (.int (nI (v501 + 1))))[13]? = some (.int (nI (v501 + 1))) := List.getElem?_set_self (by rw [hn_495]; decide)
                                          have hk_505 := fld12_set (k := 13) (w := .int (nI (v501 + 1))) hk_493 (show fld12 K L 13 (((((fs457.set 7 (.long 0)).set 15 (.int 0)).set 16 (.int 0)).set 1 (.int (nI c_369))).set 13 (.int (nI (v501 + 1)))) from ⟨(v501 + 1), hs_506, by omega⟩)
                                          have hn_507 : (((((fs457.set 7 (.long 0)).set 15 (.int 0)).set 16 (.int 0)).set 1 (.int (nI c_369))).set 13 (.int (nI (v501 + 1)))).length = 51 := by rw [List.length_set]; exact hn_495
                                          have hv_508 : (((((fs457.set 7 (.long 0)).set 15 (.int 0)).set 16 (.int 0)).set 1 (.int (nI c_369))).set 13 (.int (nI (v501 + 1))))[7]? = some (.long 0) := by rw [List.getElem?_set_ne (by decide)]; exact hv_496
                                          have hv_509 : (((((fs457.set 7 (.long 0)).set 15 (.int 0)).set 16 (.int 0)).set 1 (.int (nI c_369))).set 13 (.int (nI (v501 + 1))))[15]? = some (.int (nI 0)) := by rw [List.getElem?_set_ne (by decide)]; exact hv_497
                                          have hv_510 : (((((fs457.set 7 (.long 0)).set 15 (.int 0)).set 16 (.int 0)).set 1 (.int (nI c_369))).set 13 (.int (nI (v501 + 1))))[16]? = some (.int (nI 0)) := by rw [List.getElem?_set_ne (by decide)]; exact hv_498
                                          have hv_511 : (((((fs457.set 7 (.long 0)).set 15 (.int 0)).set 16 (.int 0)).set 1 (.int (nI c_369))).set 13 (.int (nI (v501 + 1))))[1]? = some (.int (nI c_369)) := by rw [List.getElem?_set_ne (by decide)]; exact hs_494
                                          have hb_512 : (v501 + 1) ≤ 12 := by omega
                                          obtain ⟨M_513, eM_513⟩ : ∃ M1 : Hp, M1 = va_up M_499 b11 (.inr (12, ((((fs457.set 7 (.long 0)).set 15 (.int 0)).set 16 (.int 0)).set 1 (.int (nI c_369))).set 13 (.int (nI (v501 + 1))))) := ⟨_, rfl⟩
                                          have hx13 : (fx M b11 13) = ((v501 : Nat) : Int) := (congrFun hV.2.1 13).symm.trans ((fx_of hM_500 rfl hv501).trans (nI_toInt (by omega)))
                                          have hV : VW K L M M_513 b11 (va_up (va_up (va_up (va_up (va_up (va_up (fx M b11) 17 ((gnw443 : Nat) : Int)) 14 ((n_459 : Nat) : Int)) 15 (0 : Int)) 16 (0 : Int)) 1 ((c_369 : Nat) : Int)) 13 (((v501 + 1) : Nat) : Int)) (va_up (va_up (va_up (va_up (va_up (ax M b11) 44 gpw443) 45 gqw443) 38 p_460) 39 q_461) 40 r_462) := by rw [eM_513]; exact hV.put hW hb_13 hM_500 hn_495 rfl (by decide) rfl (nI_toInt (by omega))
                                          have hP : va_P D vwCl ([(za, .inr (13, [.int 0, .ref z1, .int (nI z2), .int (nI z3), .int z4, .int z5, .ref z6, .ref z7, .ref z8, .ref z9, .int (nI z10), .ref z11, .ref z12, .ref z13, .ref z14, .ref z15, .int (nI zgw443), .ref z17, .int z18, .ref z19]))] ++ va_pl L M_513) H_503 := by rw [eM_513]; exact hP
                                          have hD : va_D A ([(za, .inr (13, [.int 0, .ref z1, .int (nI z2), .int (nI z3), .int z4, .int z5, .ref z6, .ref z7, .ref z8, .ref z9, .int (nI z10), .ref z11, .ref z12, .ref z13, .ref z14, .ref z15, .int (nI zgw443), .ref z17, .int z18, .ref z19]))] ++ va_pl L M_513) := by rw [eM_513]; exact hD
                                          have hW : WOM cy K L M_513 := by rw [eM_513]; exact hW.up_12 hb_13 ⟨_, rfl, hn_507, hk_505⟩
                                          have hF : fr K L [12, 14, 15, 32, 42, 45, 46, 79, 80, 81, 83] M M_513 := by rw [eM_513]; exact hF.up hb_13 (by decide)
                                          have hG : fG K L [1, 7, 8, 13, 14, 15, 16, 17, 18] M M_513 := by rw [eM_513]; exact hG.up hM_500 (by decide)
                                          have hM_514 : M_513 b11 = .inr (12, ((((fs457.set 7 (.long 0)).set 15 (.int 0)).set 16 (.int 0)).set 1 (.int (nI c_369))).set 13 (.int (nI (v501 + 1)))) := by rw [eM_513]; exact va_up_self _ _ _
                                          refine lv_aload_n hx hb dX13_close_338 rfl (lv_at hl 5 rfl) ?_
                                          refine lv_iconst (v := 1) hx hb dX13_close_339 (by decide) ?_
                                          refine pg_putN (D := D) (ci := 12) (v := .int 1) (ty := .boolean) (C := RX12) (T := TX12) (N := 51) hx hb hg inG12 tyX12 tyX12_ok nmX12 hown hK hP hD hS hb_13.1 hM_514 rfl 18 (by decide) (hN.use (Cond.fieldLinkNest RX13 288 RX12 "hasClosed" "Z" RX13) 27 rfl rfl) (fun _ h9 => h9) rfl (by decide +kernel) rfl rfl (by rw [hn_507]; decide) dX13_close_340 (fun H_515 locs hP hD hS => ?_)
                                          have hs_518 : ((((((fs457.set 7 (.long 0)).set 15 (.int 0)).set 16 (.int 0)).set 1 (.int (nI c_369))).set 13 (.int (nI (v501 + 1)))).set 18 (.int 1))[18]? = some (.int 1) := List.getElem?_set_self (by rw [hn_507]; decide)
                                          have hk_517 := fld12_set (k := 18) (w := .int 1) hk_505 (show fld12 K L 18 ((((((fs457.set 7 (.long 0)).set 15 (.int 0)).set 16 (.int 0)).set 1 (.int (nI c_369))).set 13 (.int (nI (v501 + 1)))).set 18 (.int 1)) from ⟨1, hs_518, by decide⟩)
                                          have hn_519 : ((((((fs457.set 7 (.long 0)).set 15 (.int 0)).set 16 (.int 0)).set 1 (.int (nI c_369))).set 13 (.int (nI (v501 + 1)))).set 18 (.int 1)).length = 51 := by rw [List.length_set]; exact hn_507
                                          have hv_520 : ((((((fs457.set 7 (.long 0)).set 15 (.int 0)).set 16 (.int 0)).set 1 (.int (nI c_369))).set 13 (.int (nI (v501 + 1)))).set 18 (.int 1))[7]? = some (.long 0) := by rw [List.getElem?_set_ne (by decide)]; exact hv_508
                                          have hv_521 : ((((((fs457.set 7 (.long 0)).set 15 (.int 0)).set 16 (.int 0)).set 1 (.int (nI c_369))).set 13 (.int (nI (v501 + 1)))).set 18 (.int 1))[15]? = some (.int (nI 0)) := by rw [List.getElem?_set_ne (by decide)]; exact hv_509
                                          have hv_522 : ((((((fs457.set 7 (.long 0)).set 15 (.int 0)).set 16 (.int 0)).set 1 (.int (nI c_369))).set 13 (.int (nI (v501 + 1)))).set 18 (.int 1))[16]? = some (.int (nI 0)) := by rw [List.getElem?_set_ne (by decide)]; exact hv_510
                                          have hv_523 : ((((((fs457.set 7 (.long 0)).set 15 (.int 0)).set 16 (.int 0)).set 1 (.int (nI c_369))).set 13 (.int (nI (v501 + 1)))).set 18 (.int 1))[1]? = some (.int (nI c_369)) := by rw [List.getElem?_set_ne (by decide)]; exact hv_511
                                          have hv_524 : ((((((fs457.set 7 (.long 0)).set 15 (.int 0)).set 16 (.int 0)).set 1 (.int (nI c_369))).set 13 (.int (nI (v501 + 1)))).set 18 (.int 1))[13]? = some (.int (nI (v501 + 1))) := by rw [List.getElem?_set_ne (by decide)]; exact hs_506
                                          obtain ⟨M_525, eM_525⟩ : ∃ M1 : Hp, M1 = va_up M_513 b11 (.inr (12, (((((fs457.set 7 (.long 0)).set 15 (.int 0)).set 16 (.int 0)).set 1 (.int (nI c_369))).set 13 (.int (nI (v501 + 1)))).set 18 (.int 1))) := ⟨_, rfl⟩
                                          have hV : VW K L M M_525 b11 (va_up (va_up (va_up (va_up (va_up (va_up (va_up (fx M b11) 17 ((gnw443 : Nat) : Int)) 14 ((n_459 : Nat) : Int)) 15 (0 : Int)) 16 (0 : Int)) 1 ((c_369 : Nat) : Int)) 13 (((v501 + 1) : Nat) : Int)) 18 (1 : Int)) (va_up (va_up (va_up (va_up (va_up (ax M b11) 44 gpw443) 45 gqw443) 38 p_460) 39 q_461) 40 r_462) := by rw [eM_525]; exact hV.put hW hb_13 hM_514 hn_507 rfl (by decide) rfl (by decide)
                                          have hP : va_P D vwCl ([(za, .inr (13, [.int 0, .ref z1, .int (nI z2), .int (nI z3), .int z4, .int z5, .ref z6, .ref z7, .ref z8, .ref z9, .int (nI z10), .ref z11, .ref z12, .ref z13, .ref z14, .ref z15, .int (nI zgw443), .ref z17, .int z18, .ref z19]))] ++ va_pl L M_525) H_515 := by rw [eM_525]; exact hP
                                          have hD : va_D A ([(za, .inr (13, [.int 0, .ref z1, .int (nI z2), .int (nI z3), .int z4, .int z5, .ref z6, .ref z7, .ref z8, .ref z9, .int (nI z10), .ref z11, .ref z12, .ref z13, .ref z14, .ref z15, .int (nI zgw443), .ref z17, .int z18, .ref z19]))] ++ va_pl L M_525) := by rw [eM_525]; exact hD
                                          have hW : WOM cy K L M_525 := by rw [eM_525]; exact hW.up_12 hb_13 ⟨_, rfl, hn_519, hk_517⟩
                                          have hF : fr K L [12, 14, 15, 32, 42, 45, 46, 79, 80, 81, 83] M M_525 := by rw [eM_525]; exact hF.up hb_13 (by decide)
                                          have hG : fG K L [1, 7, 8, 13, 14, 15, 16, 17, 18] M M_525 := by rw [eM_525]; exact hG.up hM_514 (by decide)
                                          have hM_526 : M_525 b11 = .inr (12, (((((fs457.set 7 (.long 0)).set 15 (.int 0)).set 16 (.int 0)).set 1 (.int (nI c_369))).set 13 (.int (nI (v501 + 1)))).set 18 (.int 1)) := by rw [eM_525]; exact va_up_self _ _ _
                                          refine lv_aload_n hx hb dX13_close_343 rfl (lv_at hl 6 rfl) ?_
                                          refine lv_aload_n hx hb dX13_close_344 rfl (lv_at hl 5 rfl) ?_
                                          refine lv_iload hx hb dX13_close_345 (lv_at hl 3 rfl) ?_
                                          have hPc : va_P D vwCl ([(za, .inr (13, [.int 0, .ref z1, .int (nI z2), .int (nI z3), .int z4, .int z5, .ref z6, .ref z7, .ref z8, .ref z9, .int (nI z10), .ref z11, .ref z12, .ref z13, .ref z14, .ref z15, .int (nI zgw443), .ref z17, .int z18, .ref z19]))] ++ va_pl L M_525) H_515 := hP
                                          have hDc : va_D A ([(za, .inr (13, [.int 0, .ref z1, .int (nI z2), .int (nI z3), .int z4, .int z5, .ref z6, .ref z7, .ref z8, .ref z9, .int (nI z10), .ref z11, .ref z12, .ref z13, .ref z14, .ref z15, .int (nI zgw443), .ref z17, .int z18, .ref z19]))] ++ va_pl L M_525) := hD
                                          have hFc : ∀ q, va_A ([(za, .inr (13, [.int 0, .ref z1, .int (nI z2), .int (nI z3), .int z4, .int z5, .ref z6, .ref z7, .ref z8, .ref z9, .int (nI z10), .ref z11, .ref z12, .ref z13, .ref z14, .ref z15, .int (nI zgw443), .ref z17, .int z18, .ref z19]))] ++ va_pl L M_525) H_515.size q → A q := pg_free hDc hS hA
                                          refine va_callv (va_runV (As := [.ref b11, .int (nI c_369)]) (rest := []) ⟨hx, hb, hml, hown, hg⟩ (g_X13_incomes l D cy K L M_525 H_515.size za 0 z1 z2 z3 z4 z5 z6 z7 z8 z9 z10 z11 z12 z13 z14 z15 zgw443 z17 z18 z19 b11 c_369  hW i1 b2 b3 i6 i7 i8 i9 b10 i11 i12 i13 i14 i15 (by omega) i17 i19 hb_13 hc_370 (R5.mv hR5 i6 i7 hF (by decide) (by decide))) (cwV 2 hg (gV wd_864 wd_865 wd_866 wd_717 wd_867) rfl rfl rfl (by decide +kernel) ⟨(Nat.le_trans (Nat.le_of_ble_eq_true rfl) hRf), (Nat.le_trans (Nat.le_of_ble_eq_true rfl) hRl)⟩) ⟨PG.blind, va_recv hK hP (ci := 13) (q0 := 0) rfl rfl, fun U hU hW => ⟨rfl, PG.at hPc hK hDc hN hU hW⟩⟩ rfl rfl hl.1 rfl (lv_room (Nat.le_of_ble_eq_true rfl)) dX13_close_347 ⟨(Nat.le_trans (Nat.le_of_ble_eq_true rfl) hRc), (Nat.le_trans (Nat.le_of_ble_eq_true rfl) hRs)⟩) hS (fun q _ h => hFc q h) hFc (fun M_529 t H_527 locs ht hvm hw hB hz1 hk1 hS => ?_)
                                          have hWb := hW
                                          obtain ⟨hW, hF2, hG2, hp_530⟩ := hw
                                          obtain ⟨hP1, hD1⟩ := hB
                                          rw [ht] at hP1
                                          have hP : va_P D vwCl ([(za, .inr (13, [.int 0, .ref z1, .int (nI z2), .int (nI z3), .int z4, .int z5, .ref z6, .ref z7, .ref z8, .ref z9, .int (nI z10), .ref z11, .ref z12, .ref z13, .ref z14, .ref z15, .int (nI zgw443), .ref z17, .int z18, .ref z19]))] ++ va_pl L M_529) H_527 := hP1
                                          have hD : va_D A ([(za, .inr (13, [.int 0, .ref z1, .int (nI z2), .int (nI z3), .int z4, .int z5, .ref z6, .ref z7, .ref z8, .ref z9, .int (nI z10), .ref z11, .ref z12, .ref z13, .ref z14, .ref z15, .int (nI zgw443), .ref z17, .int z18, .ref z19]))] ++ va_pl L M_529) := hD1.mono hFc
                                          obtain ⟨fs531, hM531, hn531, hl531⟩ := hW.open_12 hb_13
                                          have hv_532 : fs531[15]? = some (.int (nI 0) : Value) := (hG2 _ hb_13 _ _ hM_526 hM531 15 (by decide)).trans hv_521
                                          have hv_533 : fs531[16]? = some (.int (nI 0) : Value) := (hG2 _ hb_13 _ _ hM_526 hM531 16 (by decide)).trans hv_522
                                          have hv_534 : fs531[1]? = some (.int (nI c_369) : Value) := (hG2 _ hb_13 _ _ hM_526 hM531 1 (by decide)).trans hv_523
                                          have hv_535 : fs531[13]? = some (.int (nI (v501 + 1)) : Value) := (hG2 _ hb_13 _ _ hM_526 hM531 13 (by decide)).trans hv_524
                                          have hv_536 : fs531[18]? = some (.int 1 : Value) := (hG2 _ hb_13 _ _ hM_526 hM531 18 (by decide)).trans hs_518
                                          have hF : fr K L [12, 14, 15, 32, 42, 45, 46, 79, 80, 81, 83] M M_529 := hF.tr hF2 (by decide)
                                          have hG : fG K L [1, 7, 8, 13, 14, 15, 16, 17, 18] M M_529 := hG.tr hWb hG2 (by decide)
                                          have hV : VW K L M M_529 b11 (va_up (va_up (va_up (va_up (va_up (va_up (va_up (fx M b11) 17 ((gnw443 : Nat) : Int)) 14 ((n_459 : Nat) : Int)) 15 (0 : Int)) 16 (0 : Int)) 1 ((c_369 : Nat) : Int)) 13 (((v501 + 1) : Nat) : Int)) 18 (1 : Int)) (va_up (va_up (va_up (va_up (va_up (ax M b11) 44 gpw443) 45 gqw443) 38 p_460) 39 q_461) 40 r_462) := hV.cal hWb hW hF2 hG2 (by decide) (by decide) hb_13
                                          refine lv_aload_n hx hb dX13_close_350 rfl (lv_at hl 5 rfl) ?_
                                          refine lv_iload hx hb dX13_close_351 (lv_at hl 3 rfl) ?_
                                          have hPc : va_P D vwCl ([] ++ va_pl L M_529) H_527 := hP.part (cx := []) [] rfl
                                          have hDc : va_D A ([] ++ va_pl L M_529) := hD.part (cx := []) [] (by decide) rfl
                                          have hFc : ∀ q, va_A ([] ++ va_pl L M_529) H_527.size q → A q := pg_free hDc hS hA
                                          refine va_callv (va_runS (As := [.ref b11, .int (nI c_369)]) (rest := []) ⟨hx, hb, hml, hown, hg⟩ (g_X13_ends l D cy K L M_529 H_527.size b11 (nI c_369)  hW hb_13 hV.2.2.2 (by rw [hV.2.1, hV.2.2.1]; exact hAT.2.2.1)) (va_cwS 2 hg (gS wd_868 wd_869 wd_717 wd_870) rfl rfl rfl (by decide +kernel) ⟨(Nat.le_trans (Nat.le_of_ble_eq_true rfl) hRf), (Nat.le_trans (Nat.le_of_ble_eq_true rfl) hRl)⟩) ⟨PG.blind, fun U hU hW => ⟨rfl, PG.at hPc hK hDc hN hU hW⟩⟩ rfl rfl hl.1 rfl (lv_room (Nat.le_of_ble_eq_true rfl)) dX13_close_353 ⟨(Nat.le_trans (Nat.le_of_ble_eq_true rfl) hRc), (Nat.le_trans (Nat.le_of_ble_eq_true rfl) hRs)⟩) hS (fun q _ h => hFc q h) hFc (fun M_539 t H_537 locs ht hvm hw hB hz1 hk1 hS => ?_)
                                          have hWb := hW
                                          obtain ⟨hW, hF2, hG2, hVP, hp_540⟩ := hw
                                          obtain ⟨hP1, hD1⟩ := hB
                                          rw [ht] at hP1
                                          obtain ⟨hP, hD⟩ := va_joinP (X := [(za, .inr (13, [.int 0, .ref z1, .int (nI z2), .int (nI z3), .int z4, .int z5, .ref z6, .ref z7, .ref z8, .ref z9, .int (nI z10), .ref z11, .ref z12, .ref z13, .ref z14, .ref z15, .int (nI zgw443), .ref z17, .int z18, .ref z19]))]) (cx := []) (wr := [(za, .inr (13, [.int 0, .ref z1, .int (nI z2), .int (nI z3), .int z4, .int z5, .ref z6, .ref z7, .ref z8, .ref z9, .int (nI z10), .ref z11, .ref z12, .ref z13, .ref z14, .ref z15, .int (nI zgw443), .ref z17, .int z18, .ref z19]))]) (rx := []) (pl := va_pl L M_529) (pl1 := va_pl L M_539) hP hD [] [0] rfl rfl (by decide) (by decide) hk1 hFc hP1 hD1
                                          have hP : va_P D vwCl ([(za, .inr (13, [.int 0, .ref z1, .int (nI z2), .int (nI z3), .int z4, .int z5, .ref z6, .ref z7, .ref z8, .ref z9, .int (nI z10), .ref z11, .ref z12, .ref z13, .ref z14, .ref z15, .int (nI zgw443), .ref z17, .int z18, .ref z19]))] ++ va_pl L M_539) H_537 := hP
                                          have hD : va_D A ([(za, .inr (13, [.int 0, .ref z1, .int (nI z2), .int (nI z3), .int z4, .int z5, .ref z6, .ref z7, .ref z8, .ref z9, .int (nI z10), .ref z11, .ref z12, .ref z13, .ref z14, .ref z15, .int (nI zgw443), .ref z17, .int z18, .ref z19]))] ++ va_pl L M_539) := hD
                                          have hM_541 : M_539 b11 = .inr (12, fs531) := (hF2.at hb_13 (by decide)).trans hM531
                                          have hF : fr K L [12, 14, 15, 32, 42, 45, 46, 79, 80, 81, 83] M M_539 := hF.tr hF2 (by decide)
                                          have hG : fG K L [1, 7, 8, 13, 14, 15, 16, 17, 18] M M_539 := hG.tr hWb hG2 (by decide)
                                          obtain ⟨g_542, hg9, hV2⟩ := hVP
                                          rw [hV.2.2.1] at hg9
                                          rw [hV.2.1, hV.2.2.1] at hV2
                                          have hg9 : ∀ k : Nat, k < 24 → 1 ≤ ((ax M b11 23) k).toInt → 1 ≤ (g_542 k).toInt := hg9
                                          have hV : VW K L M M_539 b11 (va_up (va_up (va_up (va_up (va_up (va_up (va_up (fx M b11) 17 ((gnw443 : Nat) : Int)) 14 ((n_459 : Nat) : Int)) 15 (0 : Int)) 16 (0 : Int)) 1 ((c_369 : Nat) : Int)) 13 (((v501 + 1) : Nat) : Int)) 18 (1 : Int)) (va_up (va_up (va_up (va_up (va_up (va_up (ax M b11) 44 gpw443) 45 gqw443) 38 p_460) 39 q_461) 40 r_462) 23 g_542) := hV.tr hV2
                                          refine lv_aload_n hx hb dX13_close_356 rfl (lv_at hl 6 rfl) ?_
                                          refine lv_aload_n hx hb dX13_close_357 rfl (lv_at hl 5 rfl) ?_
                                          refine pg_getN (D := D) (ci := 12) (v := .int (nI (v501 + 1))) (C := RX12) (T := TX12) (N := 51) hx hb hg inG12 hown hK hP hb_13.1 hM_541 rfl 13 (by decide) (hN.use (Cond.fieldLinkNest RX13 244 RX12 "closed" "I" RX13) 22 rfl rfl) (fun _ h9 => h9) hv_535 dX13_close_358 ?_
                                          have hx13 : (((v501 + 1) : Nat) : Int) = (((v501 + 1) : Nat) : Int) := (congrFun hV.2.1 13).symm.trans ((fx_of hM_541 rfl hv_535).trans (nI_toInt (by omega)))
                                          refine lv_iconst (v := 1) hx hb dX13_close_361 (by decide) ?_
                                          refine lv_isub hx hb dX13_close_362 ?_
                                          refine lv_topi (fun f_543 ef_543 => ?_)
                                          obtain rfl : f_543 = (nI ((v501 + 1) - 1)) := ef_543.trans (nI_prd (by omega))
                                          have hPc := hP.sub (ws' := [(za, .inr (13, [.int 0, .ref z1, .int (nI z2), .int (nI z3), .int z4, .int z5, .ref z6, .ref z7, .ref z8, .ref z9, .int (nI z10), .ref z11, .ref z12, .ref z13, .ref z14, .ref z15, .int (nI zgw443), .ref z17, .int z18, .ref z19]))]) [0] rfl
                                          have hDc := hD.sub (ws' := [(za, .inr (13, [.int 0, .ref z1, .int (nI z2), .int (nI z3), .int z4, .int z5, .ref z6, .ref z7, .ref z8, .ref z9, .int (nI z10), .ref z11, .ref z12, .ref z13, .ref z14, .ref z15, .int (nI zgw443), .ref z17, .int z18, .ref z19]))]) [0] (by decide) rfl
                                          have hKc := hK.sub (tys' := []) [] rfl
                                          have hFc := va_free (wc := [(za, .inr (13, [.int 0, .ref z1, .int (nI z2), .int (nI z3), .int z4, .int z5, .ref z6, .ref z7, .ref z8, .ref z9, .int (nI z10), .ref z11, .ref z12, .ref z13, .ref z14, .ref z15, .int (nI zgw443), .ref z17, .int z18, .ref z19]))]) hD hS hA [0] rfl
                                          refine va_calli (va_runV (As := [.int (nI ((v501 + 1) - 1))]) (rest := []) ⟨hx, hb, hml, hown, hg⟩ (m_done l D H_537.size za 0 z1 (nI z2) (nI z3) z4 z5 z6 z7 z8 z9 (nI z10) z11 z12 z13 z14 z15 (nI zgw443) z17 z18 z19 (nI ((v501 + 1) - 1))) (cwV 1 hg (gV wd_730 wd_731 wd_732 wd_717 wd_733) rfl rfl rfl (by decide +kernel) ⟨(Nat.le_trans (Nat.le_of_ble_eq_true rfl) hRf), (Nat.le_trans (Nat.le_of_ble_eq_true rfl) hRl)⟩) ⟨Pr.blind, va_recv hK hP (ci := 13) (q0 := 0) rfl rfl, fun U hU hW => ⟨rfl, Pr.at hPc hKc hDc hN hU hW⟩⟩ rfl rfl hl.1 rfl (lv_room (Nat.le_of_ble_eq_true rfl)) dX13_close_363 ⟨(Nat.le_trans (Nat.le_of_ble_eq_true rfl) hRc), (Nat.le_trans (Nat.le_of_ble_eq_true rfl) hRs)⟩) hS (fun q _ h => hFc q h) hFc (fun r_545 M_546 t H_544 locs ht hvm hw hB hz1 hk1 hS => ?_)
                                          have hp_547 := hw
                                          obtain ⟨hP1, hK1, hD1⟩ := hB
                                          rw [ht] at hP1
                                          obtain ⟨hP, hD⟩ := va_joinQ (X := [(za, .inr (13, [.int 0, .ref z1, .int (nI z2), .int (nI z3), .int z4, .int z5, .ref z6, .ref z7, .ref z8, .ref z9, .int (nI z10), .ref z11, .ref z12, .ref z13, .ref z14, .ref z15, .int (nI zgw443), .ref z17, .int z18, .ref z19]))]) (cx := [(za, .inr (13, [.int 0, .ref z1, .int (nI z2), .int (nI z3), .int z4, .int z5, .ref z6, .ref z7, .ref z8, .ref z9, .int (nI z10), .ref z11, .ref z12, .ref z13, .ref z14, .ref z15, .int (nI zgw443), .ref z17, .int z18, .ref z19]))]) (wr := []) (w1 := [(za, .inr (13, [.int 0, .ref z1, .int (nI z2), .int (nI z3), .int 0, .int (-1), .ref z6, .ref z7, .ref z8, .ref z9, .int (nI z10), .ref z11, .ref z12, .ref z13, .ref z14, .ref z15, .int (nI zgw443), .ref z17, .int z18, .ref z19]))]) (pl := va_pl L M_539) hP hD [0] [] rfl rfl (by decide) (by decide) hk1 hFc hP1 hD1
                                          have hP : va_P D vwCl ([(za, .inr (13, [.int 0, .ref z1, .int (nI z2), .int (nI z3), .int 0, .int (-1), .ref z6, .ref z7, .ref z8, .ref z9, .int (nI z10), .ref z11, .ref z12, .ref z13, .ref z14, .ref z15, .int (nI zgw443), .ref z17, .int z18, .ref z19]))] ++ va_pl L M_539) H_544 := hP
                                          have hD : va_D A ([(za, .inr (13, [.int 0, .ref z1, .int (nI z2), .int (nI z3), .int 0, .int (-1), .ref z6, .ref z7, .ref z8, .ref z9, .int (nI z10), .ref z11, .ref z12, .ref z13, .ref z14, .ref z15, .int (nI zgw443), .ref z17, .int z18, .ref z19]))] ++ va_pl L M_539) := hD
                                          have hq := Eq.symm hp_547
                                          subst hq
                                          have hA9 : HA (ax M b11 2) (ax M b11 3) := hAT.1
                                          have hB9 : HB (0 : Int) ((n_459 : Nat) : Int) (ax M b11 3) (ax M b11 43) := HB.zero hAT.2.1.nn.1 hn14
                                          have hC9 : HC (fx M b11 10) (ax M b11 22) g_542 := HC.gr hAT.2.2.1 hg9
                                          have hD9 : HD (fx M b11 0) (fx M b11 11) (0 : Int) (ax M b11 34) (ax M b11 41) := HD.clr hAT.2.2.2.1
                                          have hE9 : HE (fx M b11 0) ((c_369 : Nat) : Int) (fx M b11 12) (((v501 + 1) : Nat) : Int) (ax M b11 37) := HE.close hAT.2.2.2.2 hb13 (by omega) (by omega) (by rw [hT37])
                                          have hH9 : HI (va_up (va_up (va_up (va_up (va_up (va_up (va_up (fx M b11) 17 ((gnw443 : Nat) : Int)) 14 ((n_459 : Nat) : Int)) 15 (0 : Int)) 16 (0 : Int)) 1 ((c_369 : Nat) : Int)) 13 (((v501 + 1) : Nat) : Int)) 18 (1 : Int)) (va_up (va_up (va_up (va_up (va_up (va_up (ax M b11) 44 gpw443) 45 gqw443) 38 p_460) 39 q_461) 40 r_462) 23 g_542) := ⟨hA9, hB9, hC9, hD9, hE9⟩
                                          have hGI9 : GI K L z1 z2 M_539 := GI.fin hW0 i1 b2 hGI hact hV (hF.at i1 (by decide)) hH9
                                          rw [hQ]
                                          exact W.iret (v := (nI ((v501 + 1) - 1))) hx hb hr (fun t ht hW9 => ⟨⟨(nI ((v501 + 1) - 1)), M_539, rfl, ⟨hW, hF, hG, hGI9, trivial⟩, ⟨0, (-1), zgw443, (by omega), by rw [ht]; exact hP, hD⟩⟩, hS.F ht⟩) hS.2.2 dX13_close_366
                                        · have hz := rfl (a := 0)
                                          have n_548 : ¬ (v450 ≤ v7w443) := fun q => c_451 ((iLE (a := v450) (b := v7w443) (by omega) (by omega)).mpr q)
                                          obtain ⟨v549, hv549, hc549⟩ : ∃ v : Nat, fs449[17]? = some (.int (nI v) : Value) ∧ v ≤ 120 := hl449 17 (by decide)
                                          have hx17 : ((gnw443 : Nat) : Int) = ((v549 : Nat) : Int) := (congrFun hV.2.1 17).symm.trans ((fx_of hM449 rfl hv549).trans (nI_toInt (by omega)))
                                          have hx15 : (fx M b11 15) = ((v450 : Nat) : Int) := (congrFun hV.2.1 15).symm.trans ((fx_of hM449 rfl hv450).trans (nI_toInt (by omega)))
                                          refine lv_aload_n hx hb dX13_close_287 rfl (lv_at hl 6 rfl) ?_
                                          refine lv_aload_n hx hb dX13_close_288 rfl (lv_at hl 5 rfl) ?_
                                          refine lv_iload hx hb dX13_close_289 (lv_at hl 0 rfl) ?_
                                          have hPc : va_P D vwCl ([(za, .inr (13, [.int 0, .ref z1, .int (nI z2), .int (nI z3), .int z4, .int z5, .ref z6, .ref z7, .ref z8, .ref z9, .int (nI z10), .ref z11, .ref z12, .ref z13, .ref z14, .ref z15, .int (nI zgw443), .ref z17, .int z18, .ref z19]))] ++ va_pl L M_447) H_448 := hP
                                          have hDc : va_D A ([(za, .inr (13, [.int 0, .ref z1, .int (nI z2), .int (nI z3), .int z4, .int z5, .ref z6, .ref z7, .ref z8, .ref z9, .int (nI z10), .ref z11, .ref z12, .ref z13, .ref z14, .ref z15, .int (nI zgw443), .ref z17, .int z18, .ref z19]))] ++ va_pl L M_447) := hD
                                          have hFc : ∀ q, va_A ([(za, .inr (13, [.int 0, .ref z1, .int (nI z2), .int (nI z3), .int z4, .int z5, .ref z6, .ref z7, .ref z8, .ref z9, .int (nI z10), .ref z11, .ref z12, .ref z13, .ref z14, .ref z15, .int (nI zgw443), .ref z17, .int z18, .ref z19]))] ++ va_pl L M_447) H_448.size q → A q := pg_free hDc hS hA
                                          refine va_callv (va_runV (As := [.ref b11, .int (nI v7w443)]) (rest := []) ⟨hx, hb, hml, hown, hg⟩ (g_X13_mended l D cy K L M_447 H_448.size za 0 z1 z2 z3 z4 z5 z6 z7 z8 z9 z10 z11 z12 z13 z14 z15 zgw443 z17 z18 z19 b11 v7w443  hW i1 b2 b3 i6 i7 i8 i9 b10 i11 i12 i13 i14 i15 (by omega) i17 i19 hb_13 (by omega) hV.2.2.2 ⟨_, _, hM449, hv549, by omega⟩ (by rw [hV.2.1]; exact h11) (by rw [hV.2.1, hV.2.2.1]; exact hAT.2.2.2.1) (by rw [hV.2.1]; show ((v7w443 : Nat) : Int) < fx M b11 15; omega)) (cwV 2 hg (gV wd_871 wd_872 wd_873 wd_717 wd_874) rfl rfl rfl (by decide +kernel) ⟨(Nat.le_trans (Nat.le_of_ble_eq_true rfl) hRf), (Nat.le_trans (Nat.le_of_ble_eq_true rfl) hRl)⟩) ⟨PG.blind, va_recv hK hP (ci := 13) (q0 := 0) rfl rfl, fun U hU hW => ⟨rfl, PG.at hPc hK hDc hN hU hW⟩⟩ rfl rfl hl.1 rfl (lv_room (Nat.le_of_ble_eq_true rfl)) dX13_close_291 ⟨(Nat.le_trans (Nat.le_of_ble_eq_true rfl) hRc), (Nat.le_trans (Nat.le_of_ble_eq_true rfl) hRs)⟩) hS (fun q _ h => hFc q h) hFc (fun M_552 t H_550 locs ht hvm hw hB hz1 hk1 hS => ?_)
                                          have hWb := hW
                                          obtain ⟨hW, hF2, hG2, hVP, hp_553⟩ := hw
                                          obtain ⟨w16_554, hg_555, hP1, hD1⟩ := hB
                                          rw [ht] at hP1
                                          have hP : va_P D vwCl ([(za, .inr (13, [.int 0, .ref z1, .int (nI z2), .int (nI z3), .int z4, .int z5, .ref z6, .ref z7, .ref z8, .ref z9, .int (nI z10), .ref z11, .ref z12, .ref z13, .ref z14, .ref z15, .int (nI w16_554), .ref z17, .int z18, .ref z19]))] ++ va_pl L M_552) H_550 := hP1
                                          have hD : va_D A ([(za, .inr (13, [.int 0, .ref z1, .int (nI z2), .int (nI z3), .int z4, .int z5, .ref z6, .ref z7, .ref z8, .ref z9, .int (nI z10), .ref z11, .ref z12, .ref z13, .ref z14, .ref z15, .int (nI w16_554), .ref z17, .int z18, .ref z19]))] ++ va_pl L M_552) := hD1.mono hFc
                                          obtain ⟨fs556, hM556, hn556, hl556⟩ := hW.open_12 hb_13
                                          have hv_557 : fs556[15]? = some (.int (nI v450) : Value) := (hG2 _ hb_13 _ _ hM449 hM556 15 (by decide)).trans hv450
                                          have hF : fr K L [12, 14, 15, 32, 42, 45, 46, 79, 80, 81, 83] M M_552 := hF.tr hF2 (by decide)
                                          have hG : fG K L [1, 7, 8, 13, 14, 15, 16, 17, 18] M M_552 := hG.tr hWb hG2 (by decide)
                                          obtain ⟨n_558, g_559, g_560, hn17, hV2⟩ := hVP
                                          rw [hV.2.1] at hn17
                                          rw [hV.2.1, hV.2.2.1] at hV2
                                          have hn17 : ((gnw443 : Nat) : Int) = (n_558 : Int) := hn17
                                          have hV : VW K L M M_552 b11 (va_up (va_up (fx M b11) 17 ((gnw443 : Nat) : Int)) 17 ((n_558 + 1 : Nat) : Int)) (va_up (va_up (va_up (va_up (ax M b11) 44 gpw443) 45 gqw443) 44 g_559) 45 g_560) := hV.tr hV2
                                          refine lv_iinc (v := (nI (v7w443 + 1))) (lv' := [(7, .int (nI (v7w443 + 1))), (6, .int (nI v424)), (5, .int (-1)), (4, .int (nI c_369)), (3, .int (nI (c_26 + 1))), (2, .ref b11), (0, .ref za), (1, .int k1)]) hx hb dX13_close_294 hl (k := 0) rfl (nI_1 v7w443) (by decide) rfl (fun ls hl => ?_)
                                          refine lv_goto (tgt := 278) hx hb dX13_close_297 (by decide) ?_
                                          exact ih_441 (v7w443 + 1) w16_554 (n_558 + 1) g_559 g_560 M_552 H_550 _ _ (by omega) (by omega) (by omega) (by omega) hW hF hG (by have h := hV; simp only [va_up_up] at h; rw [va_up_4] at h; exact h) hP hD hS (lv_sub hl [0, 1, 2, 3, 4, 5, 6, 7] rfl)
                                    exact key_440 (24 - 0 + 1) 0 zgw433 gnw416 gpw416 gqw416 M_436 H_437 _ _ (by omega) (by omega) (by omega) (by omega) hW hF hG hV hP hD hS (lv_sub hl [0, 1, 2, 3, 4, 5, 6, 7] rfl)
                                  · have hz := rfl (a := 0)
                                    have n_561 : ¬ (v424 ≤ v7w433) := fun q => c_438 ((iLE (a := v424) (b := v7w433) (by omega) (by omega)).mpr q)
                                    refine lv_aload_n hx hb dX13_close_261 rfl (lv_at hl 6 rfl) ?_
                                    refine lv_aload_n hx hb dX13_close_262 rfl (lv_at hl 5 rfl) ?_
                                    refine lv_iload hx hb dX13_close_263 (lv_at hl 0 rfl) ?_
                                    refine lv_iload_n hx hb dX13_close_265 rfl (lv_at hl 4 rfl) ?_
                                    have hPc : va_P D vwCl ([(za, .inr (13, [.int 0, .ref z1, .int (nI z2), .int (nI z3), .int z4, .int z5, .ref z6, .ref z7, .ref z8, .ref z9, .int (nI z10), .ref z11, .ref z12, .ref z13, .ref z14, .ref z15, .int (nI zgw433), .ref z17, .int z18, .ref z19]))] ++ va_pl L M_436) H_437 := hP
                                    have hDc : va_D A ([(za, .inr (13, [.int 0, .ref z1, .int (nI z2), .int (nI z3), .int z4, .int z5, .ref z6, .ref z7, .ref z8, .ref z9, .int (nI z10), .ref z11, .ref z12, .ref z13, .ref z14, .ref z15, .int (nI zgw433), .ref z17, .int z18, .ref z19]))] ++ va_pl L M_436) := hD
                                    have hFc : ∀ q, va_A ([(za, .inr (13, [.int 0, .ref z1, .int (nI z2), .int (nI z3), .int z4, .int z5, .ref z6, .ref z7, .ref z8, .ref z9, .int (nI z10), .ref z11, .ref z12, .ref z13, .ref z14, .ref z15, .int (nI zgw433), .ref z17, .int z18, .ref z19]))] ++ va_pl L M_436) H_437.size q → A q := pg_free hDc hS hA
                                    refine va_callv (va_runV (As := [.ref b11, .int (nI v7w433), .int (nI (c_26 + 1))]) (rest := []) ⟨hx, hb, hml, hown, hg⟩ (g_X13_stretch l D cy K L M_436 H_437.size za 0 z1 z2 z3 z4 z5 z6 z7 z8 z9 z10 z11 z12 z13 z14 z15 zgw433 z17 z18 z19 b11 v7w433 (nI (c_26 + 1))  hW i1 b2 b3 i6 i7 i8 i9 b10 i11 i12 i13 i14 i15 (by omega) i17 i19 hb_13 (by omega) hV.2.2.2 (by rw [hV.2.1]; exact h11) (by rw [hV.2.1, hV.2.2.1]; exact hAT.2.2.2.1.1 h11) (by have hq9 := hs4 v7w433 (by omega); rw [hV.2.1, hV.2.2.1]; show fx M b11 0 ≤ (gpw416 v7w433).toInt; omega) (by have hq9 := hs4 v7w433 (by omega); rw [hV.2.2.1]; show (gpw416 v7w433).toInt + (gqw416 v7w433).toInt ≤ 1000; omega)) (cwV 3 hg (gV wd_875 wd_876 wd_877 wd_717 wd_878) rfl rfl rfl (by decide +kernel) ⟨(Nat.le_trans (Nat.le_of_ble_eq_true rfl) hRf), (Nat.le_trans (Nat.le_of_ble_eq_true rfl) hRl)⟩) ⟨PG.blind, va_recv hK hP (ci := 13) (q0 := 0) rfl rfl, fun U hU hW => ⟨rfl, PG.at hPc hK hDc hN hU hW⟩⟩ rfl rfl hl.1 rfl (lv_room (Nat.le_of_ble_eq_true rfl)) dX13_close_266 ⟨(Nat.le_trans (Nat.le_of_ble_eq_true rfl) hRc), (Nat.le_trans (Nat.le_of_ble_eq_true rfl) hRs)⟩) hS (fun q _ h => hFc q h) hFc (fun M_564 t H_562 locs ht hvm hw hB hz1 hk1 hS => ?_)
                                    have hWb := hW
                                    obtain ⟨hW, hF2, hG2, hp_565⟩ := hw
                                    obtain ⟨w16_566, hg_567, hP1, hD1⟩ := hB
                                    rw [ht] at hP1
                                    have hP : va_P D vwCl ([(za, .inr (13, [.int 0, .ref z1, .int (nI z2), .int (nI z3), .int z4, .int z5, .ref z6, .ref z7, .ref z8, .ref z9, .int (nI z10), .ref z11, .ref z12, .ref z13, .ref z14, .ref z15, .int (nI w16_566), .ref z17, .int z18, .ref z19]))] ++ va_pl L M_564) H_562 := hP1
                                    have hD : va_D A ([(za, .inr (13, [.int 0, .ref z1, .int (nI z2), .int (nI z3), .int z4, .int z5, .ref z6, .ref z7, .ref z8, .ref z9, .int (nI z10), .ref z11, .ref z12, .ref z13, .ref z14, .ref z15, .int (nI w16_566), .ref z17, .int z18, .ref z19]))] ++ va_pl L M_564) := hD1.mono hFc
                                    have hF : fr K L [12, 14, 15, 32, 42, 45, 46, 79, 80, 81, 83] M M_564 := hF.tr hF2 (by decide)
                                    have hG : fG K L [1, 7, 8, 13, 14, 15, 16, 17, 18] M M_564 := hG.tr hWb hG2 (by decide)
                                    have hV : VW K L M M_564 b11 (va_up (fx M b11) 17 ((gnw416 : Nat) : Int)) (va_up (va_up (ax M b11) 44 gpw416) 45 gqw416) := hV.cal hWb hW hF2 hG2 (by decide) (by decide) hb_13
                                    refine lv_iinc (v := (nI (v7w433 + 1))) (lv' := [(7, .int (nI (v7w433 + 1))), (6, .int (nI v424)), (5, .int (-1)), (4, .int (nI c_369)), (3, .int (nI (c_26 + 1))), (2, .ref b11), (0, .ref za), (1, .int k1)]) hx hb dX13_close_269 hl (k := 0) rfl (nI_1 v7w433) (by decide) rfl (fun ls hl => ?_)
                                    refine lv_goto (tgt := 254) hx hb dX13_close_272 (by decide) ?_
                                    exact ih_431 (v7w433 + 1) w16_566 M_564 H_562 _ _ (by omega) (by omega) (by omega) hW hF hG hV hP hD hS (lv_sub hl [0, 1, 2, 3, 4, 5, 6, 7] rfl)
                              exact key_430 (1001 - 0 + 1) 0 z16 M_427 H_425 _ _ (by omega) (by omega) (by omega) hW hF hG hV hP hD hS (lv_sub hl [0, 1, 2, 3, 4, 5, 6, 7] rfl)
                            · have hz := rfl (a := 0)
                              have n_568 : ¬ (c_369 < v6w416) := fun q => c_421 ((iLT (a := c_369) (b := v6w416) (by omega) (by omega)).mpr q)
                              obtain ⟨fs569, hM569, hn569, hl569⟩ := hW.open_12 hb_13
                              obtain ⟨v570, hv570, hc570⟩ : ∃ v : Nat, fs569[17]? = some (.int (nI v) : Value) ∧ v ≤ 120 := hl569 17 (by decide)
                              have hx17 : ((gnw416 : Nat) : Int) = ((v570 : Nat) : Int) := (congrFun hV.2.1 17).symm.trans ((fx_of hM569 rfl hv570).trans (nI_toInt (by omega)))
                              obtain ⟨v571, hv571, hc571⟩ : ∃ v : Nat, fs569[44]? = some (.ref v : Value) ∧ isk K L v 45 120 := hl569 44 (by decide)
                              obtain ⟨f572, hM572, hf572⟩ := hW.open_45 hc571
                              have hy44 : gpw416 = f572 := (congrFun hV.2.2.1 44).symm.trans (ax_of hM569 (by decide) hv571 hM572)
                              obtain ⟨v573, hv573, hc573⟩ : ∃ v : Nat, fs569[45]? = some (.ref v : Value) ∧ isk K L v 46 120 := hl569 45 (by decide)
                              obtain ⟨f574, hM574, hf574⟩ := hW.open_46 hc573
                              have hy45 : gqw416 = f574 := (congrFun hV.2.2.1 45).symm.trans (ax_of hM569 (by decide) hv573 hM574)
                              have hSD := hx_418
                              obtain ⟨hs1, hs2, hs3, hs4⟩ := hx_418
                              have hgn : v570 = gnw416 := by omega
                              refine lv_iload hx hb dX13_close_171 (lv_at hl 0 rfl) ?_
                              refine lv_iload_n hx hb dX13_close_173 rfl (lv_at hl 3 rfl) ?_
                              refine lv_icmp_eq (tgt := 186) hx hb dX13_close_174 (by decide) (fun c_575 => ?_) (fun c_575 => ?_)
                              · have hz := rfl (a := 0)
                                have n_576 : v6w416 = (c_26 + 1) := (iEQ (a := v6w416) (b := (c_26 + 1)) (by omega) (by omega)).mp c_575
                                refine lv_aload_n hx hb dX13_close_186 rfl (lv_at hl 4 rfl) ?_
                                refine pg_getN (D := D) (ci := 12) (v := .ref v571) (C := RX12) (T := TX12) (N := 51) hx hb hg inG12 hown hK hP hb_13.1 hM569 rfl 44 (by decide) (hN.use (Cond.fieldLinkNest RX13 265 RX12 "stretchDay" "[I" RX13) 53 rfl rfl) (fun _ h9 => h9) hv571 dX13_close_187 ?_
                                refine lv_aload_n hx hb dX13_close_190 rfl (lv_at hl 4 rfl) ?_
                                refine pg_getN (D := D) (ci := 12) (v := .int (nI v570)) (C := RX12) (T := TX12) (N := 51) hx hb hg inG12 hown hK hP hb_13.1 hM569 rfl 17 (by decide) (hN.use (Cond.fieldLinkNest RX13 256 RX12 "stretches" "I" RX13) 26 rfl rfl) (fun _ h9 => h9) hv570 dX13_close_191 ?_
                                refine lv_iload hx hb dX13_close_194 (lv_at hl 0 rfl) ?_
                                refine pg_iast hx hb hK hP hD hS hc571.1 0 hM572 rfl (inbN v570 120 (by omega) (by omega)) dX13_close_196 (fun H_577 locs hP hD hS => ?_)
                                obtain ⟨M_578, eM_578⟩ : ∃ M1 : Hp, M1 = va_up M_419 v571 (.inl (cy 14, 120, .inl (upd f572 ((nI v570) : Int32).toNatClampNeg (nI v6w416)))) := ⟨_, rfl⟩
                                have hy44 : gpw416 = f572 := (congrFun hV.2.2.1 44).symm.trans (ax_of hM569 (by decide) hv571 hM572)
                                have hV : VW K L M M_578 b11 (va_up (fx M b11) 17 ((gnw416 : Nat) : Int)) (va_up (va_up (va_up (ax M b11) 44 gpw416) 45 gqw416) 44 (upd gpw416 ((nI v570) : Int32).toNatClampNeg (nI v6w416))) := by rw [eM_578]; exact hV.ast (j := 44) hW hb_13 hM569 (by decide) hv571 hc571 hM572
                                have hP : va_P D vwCl ([(za, .inr (13, [.int 0, .ref z1, .int (nI z2), .int (nI z3), .int z4, .int z5, .ref z6, .ref z7, .ref z8, .ref z9, .int (nI z10), .ref z11, .ref z12, .ref z13, .ref z14, .ref z15, .int (nI z16), .ref z17, .int z18, .ref z19]))] ++ va_pl L M_578) H_577 := by rw [eM_578]; exact hP
                                have hD : va_D A ([(za, .inr (13, [.int 0, .ref z1, .int (nI z2), .int (nI z3), .int z4, .int z5, .ref z6, .ref z7, .ref z8, .ref z9, .int (nI z10), .ref z11, .ref z12, .ref z13, .ref z14, .ref z15, .int (nI z16), .ref z17, .int z18, .ref z19]))] ++ va_pl L M_578) := by rw [eM_578]; exact hD
                                have hW : WOM cy K L M_578 := by rw [eM_578]; exact hW.up_45 hc571 ⟨_, rfl, (updP (P := fun z => ∃ c : Nat, c < 1000 ∧ z = nI c) hf572 ⟨v6w416, by omega, rfl⟩)⟩
                                have hF : fr K L [12, 14, 15, 32, 42, 45, 46, 79, 80, 81, 83] M M_578 := by rw [eM_578]; exact hF.up hc571 (by decide)
                                have hG : fG K L [1, 7, 8, 13, 14, 15, 16, 17, 18] M M_578 := by rw [eM_578]; exact hG.arr hc571 (by decide)
                                have hM_579 : M_578 v571 = .inl (cy 14, 120, .inl (upd f572 ((nI v570) : Int32).toNatClampNeg (nI v6w416))) := by rw [eM_578]; exact va_up_self _ _ _
                                have hM_580 : M_578 b11 = .inr (12, fs569) := by rw [eM_578, va_up_ne _ _ (hb_13.neT hc571 (by decide))]; exact hM569
                                have hM_581 : M_578 v573 = .inl (cy 14, 120, .inl (f574)) := by rw [eM_578, va_up_ne _ _ (hc573.neT hc571 (by decide))]; exact hM574
                                have hf_583 : ∀ j, j < 120 → ∃ c : Nat, c < 1000 ∧ (upd f572 ((nI v570) : Int32).toNatClampNeg (nI v6w416)) j = nI c := (updP (P := fun z => ∃ c : Nat, c < 1000 ∧ z = nI c) hf572 ⟨v6w416, by omega, rfl⟩)
                                obtain ⟨f_582, ef_582⟩ : ∃ f : Nat → Int32, f = upd f572 ((nI v570) : Int32).toNatClampNeg (nI v6w416) := ⟨_, rfl⟩
                                rw [← ef_582] at hM_579 hf_583
                                refine lv_aload_n hx hb dX13_close_197 rfl (lv_at hl 4 rfl) ?_
                                refine pg_getN (D := D) (ci := 12) (v := .ref v573) (C := RX12) (T := TX12) (N := 51) hx hb hg inG12 hown hK hP hb_13.1 hM_580 rfl 45 (by decide) (hN.use (Cond.fieldLinkNest RX13 268 RX12 "stretchDays" "[I" RX13) 54 rfl rfl) (fun _ h9 => h9) hv573 dX13_close_198 ?_
                                refine lv_aload_n hx hb dX13_close_201 rfl (lv_at hl 4 rfl) ?_
                                refine pg_getN (D := D) (ci := 12) (v := .int (nI v570)) (C := RX12) (T := TX12) (N := 51) hx hb hg inG12 hown hK hP hb_13.1 hM_580 rfl 17 (by decide) (hN.use (Cond.fieldLinkNest RX13 256 RX12 "stretches" "I" RX13) 26 rfl rfl) (fun _ h9 => h9) hv570 dX13_close_202 ?_
                                refine lv_iconst (v := 0) hx hb dX13_close_205 (by decide) ?_
                                refine pg_iast hx hb hK hP hD hS hc573.1 0 hM_581 rfl (inbN v570 120 (by omega) (by omega)) dX13_close_206 (fun H_584 locs hP hD hS => ?_)
                                obtain ⟨M_585, eM_585⟩ : ∃ M1 : Hp, M1 = va_up M_578 v573 (.inl (cy 14, 120, .inl (upd f574 ((nI v570) : Int32).toNatClampNeg 0))) := ⟨_, rfl⟩
                                have hy45 : gqw416 = f574 := (congrFun hV.2.2.1 45).symm.trans (ax_of hM_580 (by decide) hv573 hM_581)
                                have hV : VW K L M M_585 b11 (va_up (fx M b11) 17 ((gnw416 : Nat) : Int)) (va_up (va_up (va_up (va_up (ax M b11) 44 gpw416) 45 gqw416) 44 (upd gpw416 ((nI v570) : Int32).toNatClampNeg (nI v6w416))) 45 (upd gqw416 ((nI v570) : Int32).toNatClampNeg 0)) := by rw [eM_585]; exact hV.ast (j := 45) hW hb_13 hM_580 (by decide) hv573 hc573 hM_581
                                have hP : va_P D vwCl ([(za, .inr (13, [.int 0, .ref z1, .int (nI z2), .int (nI z3), .int z4, .int z5, .ref z6, .ref z7, .ref z8, .ref z9, .int (nI z10), .ref z11, .ref z12, .ref z13, .ref z14, .ref z15, .int (nI z16), .ref z17, .int z18, .ref z19]))] ++ va_pl L M_585) H_584 := by rw [eM_585]; exact hP
                                have hD : va_D A ([(za, .inr (13, [.int 0, .ref z1, .int (nI z2), .int (nI z3), .int z4, .int z5, .ref z6, .ref z7, .ref z8, .ref z9, .int (nI z10), .ref z11, .ref z12, .ref z13, .ref z14, .ref z15, .int (nI z16), .ref z17, .int z18, .ref z19]))] ++ va_pl L M_585) := by rw [eM_585]; exact hD
                                have hW : WOM cy K L M_585 := by rw [eM_585]; exact hW.up_46 hc573 ⟨_, rfl, (updP (P := fun z => ∃ c : Nat, c < 1001 ∧ z = nI c) hf574 ⟨0, by omega, rfl⟩)⟩
                                have hF : fr K L [12, 14, 15, 32, 42, 45, 46, 79, 80, 81, 83] M M_585 := by rw [eM_585]; exact hF.up hc573 (by decide)
                                have hG : fG K L [1, 7, 8, 13, 14, 15, 16, 17, 18] M M_585 := by rw [eM_585]; exact hG.arr hc573 (by decide)
                                have hM_586 : M_585 v573 = .inl (cy 14, 120, .inl (upd f574 ((nI v570) : Int32).toNatClampNeg 0)) := by rw [eM_585]; exact va_up_self _ _ _
                                have hM_587 : M_585 v571 = .inl (cy 14, 120, .inl (f_582)) := by rw [eM_585, va_up_ne _ _ (hc571.neT hc573 (by decide))]; exact hM_579
                                have hM_588 : M_585 b11 = .inr (12, fs569) := by rw [eM_585, va_up_ne _ _ (hb_13.neT hc573 (by decide))]; exact hM_580
                                have hf_590 : ∀ j, j < 120 → ∃ c : Nat, c < 1001 ∧ (upd f574 ((nI v570) : Int32).toNatClampNeg 0) j = nI c := (updP (P := fun z => ∃ c : Nat, c < 1001 ∧ z = nI c) hf574 ⟨0, by omega, rfl⟩)
                                obtain ⟨f_589, ef_589⟩ : ∃ f : Nat → Int32, f = upd f574 ((nI v570) : Int32).toNatClampNeg 0 := ⟨_, rfl⟩
                                rw [← ef_589] at hM_586 hf_590
                                refine lv_aload_n hx hb dX13_close_207 rfl (lv_at hl 4 rfl) ?_
                                refine lv_dup hx hb dX13_close_208 rfl ?_
                                refine pg_getN (D := D) (ci := 12) (v := .int (nI v570)) (C := RX12) (T := TX12) (N := 51) hx hb hg inG12 hown hK hP hb_13.1 hM_588 rfl 17 (by decide) (hN.use (Cond.fieldLinkNest RX13 256 RX12 "stretches" "I" RX13) 26 rfl rfl) (fun _ h9 => h9) hv570 dX13_close_209 ?_
                                refine lv_iconst (v := 1) hx hb dX13_close_212 (by decide) ?_
                                refine lv_iadd hx hb dX13_close_213 ?_
                                refine lv_topi (fun f_591 ef_591 => ?_)
                                obtain rfl : f_591 = (nI (v570 + 1)) := ef_591.trans (nI_add v570 1)
                                refine pg_putN (D := D) (ci := 12) (v := .int (nI (v570 + 1))) (ty := .int) (C := RX12) (T := TX12) (N := 51) hx hb hg inG12 tyX12 tyX12_ok nmX12 hown hK hP hD hS hb_13.1 hM_588 rfl 17 (by decide) (hN.use (Cond.fieldLinkNest RX13 256 RX12 "stretches" "I" RX13) 26 rfl rfl) (fun _ h9 => h9) rfl (by decide +kernel) rfl rfl (by rw [hn569]; decide) dX13_close_214 (fun H_592 locs hP hD hS => ?_)
                                have hs_595 : (fs569.set 17 (.int (nI (v570 + 1))))[17]? = some (.int (nI (v570 + 1))) := List.getElem?_set_self (by rw [hn569]; decide)
                                have hk_594 := fld12_set (k := 17) (w := .int (nI (v570 + 1))) hl569 (show fld12 K L 17 (fs569.set 17 (.int (nI (v570 + 1)))) from ⟨(v570 + 1), hs_595, by omega⟩)
                                have hn_596 : (fs569.set 17 (.int (nI (v570 + 1)))).length = 51 := by rw [List.length_set]; exact hn569
                                have hv_597 : (fs569.set 17 (.int (nI (v570 + 1))))[44]? = some (.ref v571) := by rw [List.getElem?_set_ne (by decide)]; exact hv571
                                have hv_598 : (fs569.set 17 (.int (nI (v570 + 1))))[45]? = some (.ref v573) := by rw [List.getElem?_set_ne (by decide)]; exact hv573
                                have hb_599 : (v570 + 1) ≤ 120 := by omega
                                obtain ⟨M_600, eM_600⟩ : ∃ M1 : Hp, M1 = va_up M_585 b11 (.inr (12, fs569.set 17 (.int (nI (v570 + 1))))) := ⟨_, rfl⟩
                                have hx17 : ((gnw416 : Nat) : Int) = ((v570 : Nat) : Int) := (congrFun hV.2.1 17).symm.trans ((fx_of hM_588 rfl hv570).trans (nI_toInt (by omega)))
                                have hV : VW K L M M_600 b11 (va_up (va_up (fx M b11) 17 ((gnw416 : Nat) : Int)) 17 (((v570 + 1) : Nat) : Int)) (va_up (va_up (va_up (va_up (ax M b11) 44 gpw416) 45 gqw416) 44 (upd gpw416 ((nI v570) : Int32).toNatClampNeg (nI v6w416))) 45 (upd gqw416 ((nI v570) : Int32).toNatClampNeg 0)) := by rw [eM_600]; exact hV.put hW hb_13 hM_588 hn569 rfl (by decide) rfl (nI_toInt (by omega))
                                have hP : va_P D vwCl ([(za, .inr (13, [.int 0, .ref z1, .int (nI z2), .int (nI z3), .int z4, .int z5, .ref z6, .ref z7, .ref z8, .ref z9, .int (nI z10), .ref z11, .ref z12, .ref z13, .ref z14, .ref z15, .int (nI z16), .ref z17, .int z18, .ref z19]))] ++ va_pl L M_600) H_592 := by rw [eM_600]; exact hP
                                have hD : va_D A ([(za, .inr (13, [.int 0, .ref z1, .int (nI z2), .int (nI z3), .int z4, .int z5, .ref z6, .ref z7, .ref z8, .ref z9, .int (nI z10), .ref z11, .ref z12, .ref z13, .ref z14, .ref z15, .int (nI z16), .ref z17, .int z18, .ref z19]))] ++ va_pl L M_600) := by rw [eM_600]; exact hD
                                have hW : WOM cy K L M_600 := by rw [eM_600]; exact hW.up_12 hb_13 ⟨_, rfl, hn_596, hk_594⟩
                                have hF : fr K L [12, 14, 15, 32, 42, 45, 46, 79, 80, 81, 83] M M_600 := by rw [eM_600]; exact hF.up hb_13 (by decide)
                                have hG : fG K L [1, 7, 8, 13, 14, 15, 16, 17, 18] M M_600 := by rw [eM_600]; exact hG.up hM_588 (by decide)
                                have hM_601 : M_600 b11 = .inr (12, fs569.set 17 (.int (nI (v570 + 1)))) := by rw [eM_600]; exact va_up_self _ _ _
                                have hM_602 : M_600 v573 = .inl (cy 14, 120, .inl (f_589)) := by rw [eM_600, va_up_ne _ _ (hc573.neT hb_13 (by decide))]; exact hM_586
                                have hM_603 : M_600 v571 = .inl (cy 14, 120, .inl (f_582)) := by rw [eM_600, va_up_ne _ _ (hc571.neT hb_13 (by decide))]; exact hM_587
                                refine lv_aload_n hx hb dX13_close_217 rfl (lv_at hl 4 rfl) ?_
                                refine pg_getN (D := D) (ci := 12) (v := .ref v573) (C := RX12) (T := TX12) (N := 51) hx hb hg inG12 hown hK hP hb_13.1 hM_601 rfl 45 (by decide) (hN.use (Cond.fieldLinkNest RX13 268 RX12 "stretchDays" "[I" RX13) 54 rfl rfl) (fun _ h9 => h9) hv_598 dX13_close_218 ?_
                                refine lv_aload_n hx hb dX13_close_221 rfl (lv_at hl 4 rfl) ?_
                                refine pg_getN (D := D) (ci := 12) (v := .int (nI (v570 + 1))) (C := RX12) (T := TX12) (N := 51) hx hb hg inG12 hown hK hP hb_13.1 hM_601 rfl 17 (by decide) (hN.use (Cond.fieldLinkNest RX13 256 RX12 "stretches" "I" RX13) 26 rfl rfl) (fun _ h9 => h9) hs_595 dX13_close_222 ?_
                                refine lv_iconst (v := 1) hx hb dX13_close_225 (by decide) ?_
                                refine lv_isub hx hb dX13_close_226 ?_
                                refine lv_topi (fun f_604 ef_604 => ?_)
                                obtain rfl : f_604 = (nI ((v570 + 1) - 1)) := ef_604.trans (nI_prd (by omega))
                                refine lv_dup2_11 hx hb dX13_close_227 rfl rfl ?_
                                have hi_605 : vp_in (nI ((v570 + 1) - 1)) 120 := (inbN ((v570 + 1) - 1) 120 (by omega) (by omega))
                                refine pg_iald hx hb hK hP hc573.1 0 hM_602 rfl hi_605 dX13_close_228 ?_
                                have hp_606 := hf_590 _ (vp_lt hi_605)
                                obtain ⟨c_607, hc_608, ec_609⟩ := hp_606
                                rw [ec_609]
                                have hy45 : (upd gqw416 ((nI v570) : Int32).toNatClampNeg 0) = f_589 := (congrFun hV.2.2.1 45).symm.trans (ax_of hM_601 (by decide) hv_598 hM_602)
                                have hec : (upd gqw416 ((nI v570) : Int32).toNatClampNeg 0) ((nI ((v570 + 1) - 1)) : Int32).toNatClampNeg = nI c_607 := by rw [hy45]; exact ec_609
                                have hcc : c_607 = 0 := updz (n := v570) (nI_cl (by omega)) ((nI_cl (by omega)).trans (by omega)) hec (by omega)
                                refine lv_iconst (v := 1) hx hb dX13_close_229 (by decide) ?_
                                refine lv_iadd hx hb dX13_close_230 ?_
                                refine lv_topi (fun f_610 ef_610 => ?_)
                                obtain rfl : f_610 = (nI (c_607 + 1)) := ef_610.trans (nI_add c_607 1)
                                refine pg_iast hx hb hK hP hD hS hc573.1 0 hM_602 rfl (inbN ((v570 + 1) - 1) 120 (by omega) (by omega)) dX13_close_231 (fun H_611 locs hP hD hS => ?_)
                                obtain ⟨M_612, eM_612⟩ : ∃ M1 : Hp, M1 = va_up M_600 v573 (.inl (cy 14, 120, .inl (upd f_589 ((nI ((v570 + 1) - 1)) : Int32).toNatClampNeg (nI (c_607 + 1))))) := ⟨_, rfl⟩
                                have hy45 : (upd gqw416 ((nI v570) : Int32).toNatClampNeg 0) = f_589 := (congrFun hV.2.2.1 45).symm.trans (ax_of hM_601 (by decide) hv_598 hM_602)
                                have hV : VW K L M M_612 b11 (va_up (va_up (fx M b11) 17 ((gnw416 : Nat) : Int)) 17 (((v570 + 1) : Nat) : Int)) (va_up (va_up (va_up (va_up (va_up (ax M b11) 44 gpw416) 45 gqw416) 44 (upd gpw416 ((nI v570) : Int32).toNatClampNeg (nI v6w416))) 45 (upd gqw416 ((nI v570) : Int32).toNatClampNeg 0)) 45 (upd (upd gqw416 ((nI v570) : Int32).toNatClampNeg 0) ((nI ((v570 + 1) - 1)) : Int32).toNatClampNeg (nI (c_607 + 1)))) := by rw [eM_612]; exact hV.ast (j := 45) hW hb_13 hM_601 (by decide) hv_598 hc573 hM_602
                                have hP : va_P D vwCl ([(za, .inr (13, [.int 0, .ref z1, .int (nI z2), .int (nI z3), .int z4, .int z5, .ref z6, .ref z7, .ref z8, .ref z9, .int (nI z10), .ref z11, .ref z12, .ref z13, .ref z14, .ref z15, .int (nI z16), .ref z17, .int z18, .ref z19]))] ++ va_pl L M_612) H_611 := by rw [eM_612]; exact hP
                                have hD : va_D A ([(za, .inr (13, [.int 0, .ref z1, .int (nI z2), .int (nI z3), .int z4, .int z5, .ref z6, .ref z7, .ref z8, .ref z9, .int (nI z10), .ref z11, .ref z12, .ref z13, .ref z14, .ref z15, .int (nI z16), .ref z17, .int z18, .ref z19]))] ++ va_pl L M_612) := by rw [eM_612]; exact hD
                                have hW : WOM cy K L M_612 := by rw [eM_612]; exact hW.up_46 hc573 ⟨_, rfl, (updP (P := fun z => ∃ c : Nat, c < 1001 ∧ z = nI c) hf_590 ⟨(c_607 + 1), by omega, rfl⟩)⟩
                                have hF : fr K L [12, 14, 15, 32, 42, 45, 46, 79, 80, 81, 83] M M_612 := by rw [eM_612]; exact hF.up hc573 (by decide)
                                have hG : fG K L [1, 7, 8, 13, 14, 15, 16, 17, 18] M M_612 := by rw [eM_612]; exact hG.arr hc573 (by decide)
                                have hM_613 : M_612 v573 = .inl (cy 14, 120, .inl (upd f_589 ((nI ((v570 + 1) - 1)) : Int32).toNatClampNeg (nI (c_607 + 1)))) := by rw [eM_612]; exact va_up_self _ _ _
                                have hM_614 : M_612 b11 = .inr (12, fs569.set 17 (.int (nI (v570 + 1)))) := by rw [eM_612, va_up_ne _ _ (hb_13.neT hc573 (by decide))]; exact hM_601
                                have hM_615 : M_612 v571 = .inl (cy 14, 120, .inl (f_582)) := by rw [eM_612, va_up_ne _ _ (hc571.neT hc573 (by decide))]; exact hM_603
                                have hf_617 : ∀ j, j < 120 → ∃ c : Nat, c < 1001 ∧ (upd f_589 ((nI ((v570 + 1) - 1)) : Int32).toNatClampNeg (nI (c_607 + 1))) j = nI c := (updP (P := fun z => ∃ c : Nat, c < 1001 ∧ z = nI c) hf_590 ⟨(c_607 + 1), by omega, rfl⟩)
                                obtain ⟨f_616, ef_616⟩ : ∃ f : Nat → Int32, f = upd f_589 ((nI ((v570 + 1) - 1)) : Int32).toNatClampNeg (nI (c_607 + 1)) := ⟨_, rfl⟩
                                rw [← ef_616] at hM_613 hf_617
                                refine lv_iinc (v := (nI (v6w416 + 1))) (lv' := [(6, .int (nI (v6w416 + 1))), (5, .int (-1)), (4, .int (nI c_369)), (3, .int (nI (c_26 + 1))), (2, .ref b11), (0, .ref za), (1, .int k1)]) hx hb dX13_close_232 hl (k := 0) rfl (nI_1 v6w416) (by decide) rfl (fun ls hl => ?_)
                                refine lv_goto (tgt := 164) hx hb dX13_close_235 (by decide) ?_
                                exact ih_414 (v6w416 + 1) (v570 + 1) (upd gpw416 ((nI v570) : Int32).toNatClampNeg (nI v6w416)) (upd (upd gqw416 ((nI v570) : Int32).toNatClampNeg 0) ((nI ((v570 + 1) - 1)) : Int32).toNatClampNeg (nI (c_607 + 1))) M_612 H_611 _ _ (by omega) (by omega) (by have h := SD.new hSD (by omega) (show (nI v570).toNatClampNeg = gnw416 from (nI_cl (by omega)).trans (by omega)) (show (nI ((v570 + 1) - 1)).toNatClampNeg = gnw416 from (nI_cl (by omega)).trans (by omega)) hcc; rw [← hgn] at h; exact h) hW hF hG (by have h := hV; simp only [va_up_up] at h; rw [va_up_4] at h; exact h) hP hD hS (lv_sub hl [0, 1, 2, 3, 4, 5, 6] rfl)
                              · have hz := rfl (a := 0)
                                have n_618 : ¬ (v6w416 = (c_26 + 1)) := fun q => c_575 ((iEQ (a := v6w416) (b := (c_26 + 1)) (by omega) (by omega)).mpr q)
                                refine lv_aload_n hx hb dX13_close_177 rfl (lv_at hl 4 rfl) ?_
                                refine lv_iload hx hb dX13_close_178 (lv_at hl 0 rfl) ?_
                                have hPc : va_P D vwCl ([] ++ va_pl L M_419) H_420 := hP.part (cx := []) [] rfl
                                have hDc : va_D A ([] ++ va_pl L M_419) := hD.part (cx := []) [] (by decide) rfl
                                have hFc : ∀ q, va_A ([] ++ va_pl L M_419) H_420.size q → A q := pg_free hDc hS hA
                                refine va_calli (va_runS (As := [.ref b11, .int (nI v6w416)]) (rest := []) ⟨hx, hb, hml, hown, hg⟩ (r_X13_isParted l D cy K L M_419 H_420.size b11 (nI v6w416)  hW hb_13) (va_cwS 2 hg (gS wd_879 wd_880 wd_717 wd_881) rfl rfl rfl (by decide +kernel) ⟨(Nat.le_trans (Nat.le_of_ble_eq_true rfl) hRf), (Nat.le_trans (Nat.le_of_ble_eq_true rfl) hRl)⟩) ⟨PG.blind, fun U hU hW => ⟨rfl, PG.at hPc hK hDc hN hU hW⟩⟩ rfl rfl hl.1 rfl (lv_room (Nat.le_of_ble_eq_true rfl)) dX13_close_180 ⟨(Nat.le_trans (Nat.le_of_ble_eq_true rfl) hRc), (Nat.le_trans (Nat.le_of_ble_eq_true rfl) hRs)⟩) hS (fun q _ h => hFc q h) hFc (fun r_620 M_621 t H_619 locs ht hvm hw hB hz1 hk1 hS => ?_)
                                have hp_622 := hw
                                obtain ⟨hP1, hD1⟩ := hB
                                rw [ht] at hP1
                                obtain ⟨hP, hD⟩ := va_joinP (X := [(za, .inr (13, [.int 0, .ref z1, .int (nI z2), .int (nI z3), .int z4, .int z5, .ref z6, .ref z7, .ref z8, .ref z9, .int (nI z10), .ref z11, .ref z12, .ref z13, .ref z14, .ref z15, .int (nI z16), .ref z17, .int z18, .ref z19]))]) (cx := []) (wr := [(za, .inr (13, [.int 0, .ref z1, .int (nI z2), .int (nI z3), .int z4, .int z5, .ref z6, .ref z7, .ref z8, .ref z9, .int (nI z10), .ref z11, .ref z12, .ref z13, .ref z14, .ref z15, .int (nI z16), .ref z17, .int z18, .ref z19]))]) (rx := []) (pl := va_pl L M_419) (pl1 := va_pl L M_419) hP hD [] [0] rfl rfl (by decide) (by decide) hk1 hFc hP1 hD1
                                have hP : va_P D vwCl ([(za, .inr (13, [.int 0, .ref z1, .int (nI z2), .int (nI z3), .int z4, .int z5, .ref z6, .ref z7, .ref z8, .ref z9, .int (nI z10), .ref z11, .ref z12, .ref z13, .ref z14, .ref z15, .int (nI z16), .ref z17, .int z18, .ref z19]))] ++ va_pl L M_419) H_619 := hP
                                have hD : va_D A ([(za, .inr (13, [.int 0, .ref z1, .int (nI z2), .int (nI z3), .int z4, .int z5, .ref z6, .ref z7, .ref z8, .ref z9, .int (nI z10), .ref z11, .ref z12, .ref z13, .ref z14, .ref z15, .int (nI z16), .ref z17, .int z18, .ref z19]))] ++ va_pl L M_419) := hD
                                rcases hp_622 with rfl | rfl
                                · have hz := rfl (a := 0)
                                  refine lv_if_eq (tgt := 217) hx hb dX13_close_183 (by decide) (fun c_623 => absurd c_623 (by decide)) (fun _ => ?_)
                                  refine lv_aload_n hx hb dX13_close_186 rfl (lv_at hl 4 rfl) ?_
                                  refine pg_getN (D := D) (ci := 12) (v := .ref v571) (C := RX12) (T := TX12) (N := 51) hx hb hg inG12 hown hK hP hb_13.1 hM569 rfl 44 (by decide) (hN.use (Cond.fieldLinkNest RX13 265 RX12 "stretchDay" "[I" RX13) 53 rfl rfl) (fun _ h9 => h9) hv571 dX13_close_187 ?_
                                  refine lv_aload_n hx hb dX13_close_190 rfl (lv_at hl 4 rfl) ?_
                                  refine pg_getN (D := D) (ci := 12) (v := .int (nI v570)) (C := RX12) (T := TX12) (N := 51) hx hb hg inG12 hown hK hP hb_13.1 hM569 rfl 17 (by decide) (hN.use (Cond.fieldLinkNest RX13 256 RX12 "stretches" "I" RX13) 26 rfl rfl) (fun _ h9 => h9) hv570 dX13_close_191 ?_
                                  refine lv_iload hx hb dX13_close_194 (lv_at hl 0 rfl) ?_
                                  refine pg_iast hx hb hK hP hD hS hc571.1 0 hM572 rfl (inbN v570 120 (by omega) (by omega)) dX13_close_196 (fun H_624 locs hP hD hS => ?_)
                                  obtain ⟨M_625, eM_625⟩ : ∃ M1 : Hp, M1 = va_up M_419 v571 (.inl (cy 14, 120, .inl (upd f572 ((nI v570) : Int32).toNatClampNeg (nI v6w416)))) := ⟨_, rfl⟩
                                  have hy44 : gpw416 = f572 := (congrFun hV.2.2.1 44).symm.trans (ax_of hM569 (by decide) hv571 hM572)
                                  have hV : VW K L M M_625 b11 (va_up (fx M b11) 17 ((gnw416 : Nat) : Int)) (va_up (va_up (va_up (ax M b11) 44 gpw416) 45 gqw416) 44 (upd gpw416 ((nI v570) : Int32).toNatClampNeg (nI v6w416))) := by rw [eM_625]; exact hV.ast (j := 44) hW hb_13 hM569 (by decide) hv571 hc571 hM572
                                  have hP : va_P D vwCl ([(za, .inr (13, [.int 0, .ref z1, .int (nI z2), .int (nI z3), .int z4, .int z5, .ref z6, .ref z7, .ref z8, .ref z9, .int (nI z10), .ref z11, .ref z12, .ref z13, .ref z14, .ref z15, .int (nI z16), .ref z17, .int z18, .ref z19]))] ++ va_pl L M_625) H_624 := by rw [eM_625]; exact hP
                                  have hD : va_D A ([(za, .inr (13, [.int 0, .ref z1, .int (nI z2), .int (nI z3), .int z4, .int z5, .ref z6, .ref z7, .ref z8, .ref z9, .int (nI z10), .ref z11, .ref z12, .ref z13, .ref z14, .ref z15, .int (nI z16), .ref z17, .int z18, .ref z19]))] ++ va_pl L M_625) := by rw [eM_625]; exact hD
                                  have hW : WOM cy K L M_625 := by rw [eM_625]; exact hW.up_45 hc571 ⟨_, rfl, (updP (P := fun z => ∃ c : Nat, c < 1000 ∧ z = nI c) hf572 ⟨v6w416, by omega, rfl⟩)⟩
                                  have hF : fr K L [12, 14, 15, 32, 42, 45, 46, 79, 80, 81, 83] M M_625 := by rw [eM_625]; exact hF.up hc571 (by decide)
                                  have hG : fG K L [1, 7, 8, 13, 14, 15, 16, 17, 18] M M_625 := by rw [eM_625]; exact hG.arr hc571 (by decide)
                                  have hM_626 : M_625 v571 = .inl (cy 14, 120, .inl (upd f572 ((nI v570) : Int32).toNatClampNeg (nI v6w416))) := by rw [eM_625]; exact va_up_self _ _ _
                                  have hM_627 : M_625 b11 = .inr (12, fs569) := by rw [eM_625, va_up_ne _ _ (hb_13.neT hc571 (by decide))]; exact hM569
                                  have hM_628 : M_625 v573 = .inl (cy 14, 120, .inl (f574)) := by rw [eM_625, va_up_ne _ _ (hc573.neT hc571 (by decide))]; exact hM574
                                  have hf_630 : ∀ j, j < 120 → ∃ c : Nat, c < 1000 ∧ (upd f572 ((nI v570) : Int32).toNatClampNeg (nI v6w416)) j = nI c := (updP (P := fun z => ∃ c : Nat, c < 1000 ∧ z = nI c) hf572 ⟨v6w416, by omega, rfl⟩)
                                  obtain ⟨f_629, ef_629⟩ : ∃ f : Nat → Int32, f = upd f572 ((nI v570) : Int32).toNatClampNeg (nI v6w416) := ⟨_, rfl⟩
                                  rw [← ef_629] at hM_626 hf_630
                                  refine lv_aload_n hx hb dX13_close_197 rfl (lv_at hl 4 rfl) ?_
                                  refine pg_getN (D := D) (ci := 12) (v := .ref v573) (C := RX12) (T := TX12) (N := 51) hx hb hg inG12 hown hK hP hb_13.1 hM_627 rfl 45 (by decide) (hN.use (Cond.fieldLinkNest RX13 268 RX12 "stretchDays" "[I" RX13) 54 rfl rfl) (fun _ h9 => h9) hv573 dX13_close_198 ?_
                                  refine lv_aload_n hx hb dX13_close_201 rfl (lv_at hl 4 rfl) ?_
                                  refine pg_getN (D := D) (ci := 12) (v := .int (nI v570)) (C := RX12) (T := TX12) (N := 51) hx hb hg inG12 hown hK hP hb_13.1 hM_627 rfl 17 (by decide) (hN.use (Cond.fieldLinkNest RX13 256 RX12 "stretches" "I" RX13) 26 rfl rfl) (fun _ h9 => h9) hv570 dX13_close_202 ?_
                                  refine lv_iconst (v := 0) hx hb dX13_close_205 (by decide) ?_
                                  refine pg_iast hx hb hK hP hD hS hc573.1 0 hM_628 rfl (inbN v570 120 (by omega) (by omega)) dX13_close_206 (fun H_631 locs hP hD hS => ?_)
                                  obtain ⟨M_632, eM_632⟩ : ∃ M1 : Hp, M1 = va_up M_625 v573 (.inl (cy 14, 120, .inl (upd f574 ((nI v570) : Int32).toNatClampNeg 0))) := ⟨_, rfl⟩
                                  have hy45 : gqw416 = f574 := (congrFun hV.2.2.1 45).symm.trans (ax_of hM_627 (by decide) hv573 hM_628)
                                  have hV : VW K L M M_632 b11 (va_up (fx M b11) 17 ((gnw416 : Nat) : Int)) (va_up (va_up (va_up (va_up (ax M b11) 44 gpw416) 45 gqw416) 44 (upd gpw416 ((nI v570) : Int32).toNatClampNeg (nI v6w416))) 45 (upd gqw416 ((nI v570) : Int32).toNatClampNeg 0)) := by rw [eM_632]; exact hV.ast (j := 45) hW hb_13 hM_627 (by decide) hv573 hc573 hM_628
                                  have hP : va_P D vwCl ([(za, .inr (13, [.int 0, .ref z1, .int (nI z2), .int (nI z3), .int z4, .int z5, .ref z6, .ref z7, .ref z8, .ref z9, .int (nI z10), .ref z11, .ref z12, .ref z13, .ref z14, .ref z15, .int (nI z16), .ref z17, .int z18, .ref z19]))] ++ va_pl L M_632) H_631 := by rw [eM_632]; exact hP
                                  have hD : va_D A ([(za, .inr (13, [.int 0, .ref z1, .int (nI z2), .int (nI z3), .int z4, .int z5, .ref z6, .ref z7, .ref z8, .ref z9, .int (nI z10), .ref z11, .ref z12, .ref z13, .ref z14, .ref z15, .int (nI z16), .ref z17, .int z18, .ref z19]))] ++ va_pl L M_632) := by rw [eM_632]; exact hD
                                  have hW : WOM cy K L M_632 := by rw [eM_632]; exact hW.up_46 hc573 ⟨_, rfl, (updP (P := fun z => ∃ c : Nat, c < 1001 ∧ z = nI c) hf574 ⟨0, by omega, rfl⟩)⟩
                                  have hF : fr K L [12, 14, 15, 32, 42, 45, 46, 79, 80, 81, 83] M M_632 := by rw [eM_632]; exact hF.up hc573 (by decide)
                                  have hG : fG K L [1, 7, 8, 13, 14, 15, 16, 17, 18] M M_632 := by rw [eM_632]; exact hG.arr hc573 (by decide)
                                  have hM_633 : M_632 v573 = .inl (cy 14, 120, .inl (upd f574 ((nI v570) : Int32).toNatClampNeg 0)) := by rw [eM_632]; exact va_up_self _ _ _
                                  have hM_634 : M_632 v571 = .inl (cy 14, 120, .inl (f_629)) := by rw [eM_632, va_up_ne _ _ (hc571.neT hc573 (by decide))]; exact hM_626
                                  have hM_635 : M_632 b11 = .inr (12, fs569) := by rw [eM_632, va_up_ne _ _ (hb_13.neT hc573 (by decide))]; exact hM_627
                                  have hf_637 : ∀ j, j < 120 → ∃ c : Nat, c < 1001 ∧ (upd f574 ((nI v570) : Int32).toNatClampNeg 0) j = nI c := (updP (P := fun z => ∃ c : Nat, c < 1001 ∧ z = nI c) hf574 ⟨0, by omega, rfl⟩)
                                  obtain ⟨f_636, ef_636⟩ : ∃ f : Nat → Int32, f = upd f574 ((nI v570) : Int32).toNatClampNeg 0 := ⟨_, rfl⟩
                                  rw [← ef_636] at hM_633 hf_637
                                  refine lv_aload_n hx hb dX13_close_207 rfl (lv_at hl 4 rfl) ?_
                                  refine lv_dup hx hb dX13_close_208 rfl ?_
                                  refine pg_getN (D := D) (ci := 12) (v := .int (nI v570)) (C := RX12) (T := TX12) (N := 51) hx hb hg inG12 hown hK hP hb_13.1 hM_635 rfl 17 (by decide) (hN.use (Cond.fieldLinkNest RX13 256 RX12 "stretches" "I" RX13) 26 rfl rfl) (fun _ h9 => h9) hv570 dX13_close_209 ?_
                                  refine lv_iconst (v := 1) hx hb dX13_close_212 (by decide) ?_
                                  refine lv_iadd hx hb dX13_close_213 ?_
                                  refine lv_topi (fun f_638 ef_638 => ?_)
                                  obtain rfl : f_638 = (nI (v570 + 1)) := ef_638.trans (nI_add v570 1)
                                  refine pg_putN (D := D) (ci := 12) (v := .int (nI (v570 + 1))) (ty := .int) (C := RX12) (T := TX12) (N := 51) hx hb hg inG12 tyX12 tyX12_ok nmX12 hown hK hP hD hS hb_13.1 hM_635 rfl 17 (by decide) (hN.use (Cond.fieldLinkNest RX13 256 RX12 "stretches" "I" RX13) 26 rfl rfl) (fun _ h9 => h9) rfl (by decide +kernel) rfl rfl (by rw [hn569]; decide) dX13_close_214 (fun H_639 locs hP hD hS => ?_)
                                  have hs_642 : (fs569.set 17 (.int (nI (v570 + 1))))[17]? = some (.int (nI (v570 + 1))) := List.getElem?_set_self (by rw [hn569]; decide)
                                  have hk_641 := fld12_set (k := 17) (w := .int (nI (v570 + 1))) hl569 (show fld12 K L 17 (fs569.set 17 (.int (nI (v570 + 1)))) from ⟨(v570 + 1), hs_642, by omega⟩)
                                  have hn_643 : (fs569.set 17 (.int (nI (v570 + 1)))).length = 51 := by rw [List.length_set]; exact hn569
                                  have hv_644 : (fs569.set 17 (.int (nI (v570 + 1))))[44]? = some (.ref v571) := by rw [List.getElem?_set_ne (by decide)]; exact hv571
                                  have hv_645 : (fs569.set 17 (.int (nI (v570 + 1))))[45]? = some (.ref v573) := by rw [List.getElem?_set_ne (by decide)]; exact hv573
                                  have hb_646 : (v570 + 1) ≤ 120 := by omega
                                  obtain ⟨M_647, eM_647⟩ : ∃ M1 : Hp, M1 = va_up M_632 b11 (.inr (12, fs569.set 17 (.int (nI (v570 + 1))))) := ⟨_, rfl⟩
                                  have hx17 : ((gnw416 : Nat) : Int) = ((v570 : Nat) : Int) := (congrFun hV.2.1 17).symm.trans ((fx_of hM_635 rfl hv570).trans (nI_toInt (by omega)))
                                  have hV : VW K L M M_647 b11 (va_up (va_up (fx M b11) 17 ((gnw416 : Nat) : Int)) 17 (((v570 + 1) : Nat) : Int)) (va_up (va_up (va_up (va_up (ax M b11) 44 gpw416) 45 gqw416) 44 (upd gpw416 ((nI v570) : Int32).toNatClampNeg (nI v6w416))) 45 (upd gqw416 ((nI v570) : Int32).toNatClampNeg 0)) := by rw [eM_647]; exact hV.put hW hb_13 hM_635 hn569 rfl (by decide) rfl (nI_toInt (by omega))
                                  have hP : va_P D vwCl ([(za, .inr (13, [.int 0, .ref z1, .int (nI z2), .int (nI z3), .int z4, .int z5, .ref z6, .ref z7, .ref z8, .ref z9, .int (nI z10), .ref z11, .ref z12, .ref z13, .ref z14, .ref z15, .int (nI z16), .ref z17, .int z18, .ref z19]))] ++ va_pl L M_647) H_639 := by rw [eM_647]; exact hP
                                  have hD : va_D A ([(za, .inr (13, [.int 0, .ref z1, .int (nI z2), .int (nI z3), .int z4, .int z5, .ref z6, .ref z7, .ref z8, .ref z9, .int (nI z10), .ref z11, .ref z12, .ref z13, .ref z14, .ref z15, .int (nI z16), .ref z17, .int z18, .ref z19]))] ++ va_pl L M_647) := by rw [eM_647]; exact hD
                                  have hW : WOM cy K L M_647 := by rw [eM_647]; exact hW.up_12 hb_13 ⟨_, rfl, hn_643, hk_641⟩
                                  have hF : fr K L [12, 14, 15, 32, 42, 45, 46, 79, 80, 81, 83] M M_647 := by rw [eM_647]; exact hF.up hb_13 (by decide)
                                  have hG : fG K L [1, 7, 8, 13, 14, 15, 16, 17, 18] M M_647 := by rw [eM_647]; exact hG.up hM_635 (by decide)
                                  have hM_648 : M_647 b11 = .inr (12, fs569.set 17 (.int (nI (v570 + 1)))) := by rw [eM_647]; exact va_up_self _ _ _
                                  have hM_649 : M_647 v573 = .inl (cy 14, 120, .inl (f_636)) := by rw [eM_647, va_up_ne _ _ (hc573.neT hb_13 (by decide))]; exact hM_633
                                  have hM_650 : M_647 v571 = .inl (cy 14, 120, .inl (f_629)) := by rw [eM_647, va_up_ne _ _ (hc571.neT hb_13 (by decide))]; exact hM_634
                                  refine lv_aload_n hx hb dX13_close_217 rfl (lv_at hl 4 rfl) ?_
                                  refine pg_getN (D := D) (ci := 12) (v := .ref v573) (C := RX12) (T := TX12) (N := 51) hx hb hg inG12 hown hK hP hb_13.1 hM_648 rfl 45 (by decide) (hN.use (Cond.fieldLinkNest RX13 268 RX12 "stretchDays" "[I" RX13) 54 rfl rfl) (fun _ h9 => h9) hv_645 dX13_close_218 ?_
                                  refine lv_aload_n hx hb dX13_close_221 rfl (lv_at hl 4 rfl) ?_
                                  refine pg_getN (D := D) (ci := 12) (v := .int (nI (v570 + 1))) (C := RX12) (T := TX12) (N := 51) hx hb hg inG12 hown hK hP hb_13.1 hM_648 rfl 17 (by decide) (hN.use (Cond.fieldLinkNest RX13 256 RX12 "stretches" "I" RX13) 26 rfl rfl) (fun _ h9 => h9) hs_642 dX13_close_222 ?_
                                  refine lv_iconst (v := 1) hx hb dX13_close_225 (by decide) ?_
                                  refine lv_isub hx hb dX13_close_226 ?_
                                  refine lv_topi (fun f_651 ef_651 => ?_)
                                  obtain rfl : f_651 = (nI ((v570 + 1) - 1)) := ef_651.trans (nI_prd (by omega))
                                  refine lv_dup2_11 hx hb dX13_close_227 rfl rfl ?_
                                  have hi_652 : vp_in (nI ((v570 + 1) - 1)) 120 := (inbN ((v570 + 1) - 1) 120 (by omega) (by omega))
                                  refine pg_iald hx hb hK hP hc573.1 0 hM_649 rfl hi_652 dX13_close_228 ?_
                                  have hp_653 := hf_637 _ (vp_lt hi_652)
                                  obtain ⟨c_654, hc_655, ec_656⟩ := hp_653
                                  rw [ec_656]
                                  have hy45 : (upd gqw416 ((nI v570) : Int32).toNatClampNeg 0) = f_636 := (congrFun hV.2.2.1 45).symm.trans (ax_of hM_648 (by decide) hv_645 hM_649)
                                  have hec : (upd gqw416 ((nI v570) : Int32).toNatClampNeg 0) ((nI ((v570 + 1) - 1)) : Int32).toNatClampNeg = nI c_654 := by rw [hy45]; exact ec_656
                                  have hcc : c_654 = 0 := updz (n := v570) (nI_cl (by omega)) ((nI_cl (by omega)).trans (by omega)) hec (by omega)
                                  refine lv_iconst (v := 1) hx hb dX13_close_229 (by decide) ?_
                                  refine lv_iadd hx hb dX13_close_230 ?_
                                  refine lv_topi (fun f_657 ef_657 => ?_)
                                  obtain rfl : f_657 = (nI (c_654 + 1)) := ef_657.trans (nI_add c_654 1)
                                  refine pg_iast hx hb hK hP hD hS hc573.1 0 hM_649 rfl (inbN ((v570 + 1) - 1) 120 (by omega) (by omega)) dX13_close_231 (fun H_658 locs hP hD hS => ?_)
                                  obtain ⟨M_659, eM_659⟩ : ∃ M1 : Hp, M1 = va_up M_647 v573 (.inl (cy 14, 120, .inl (upd f_636 ((nI ((v570 + 1) - 1)) : Int32).toNatClampNeg (nI (c_654 + 1))))) := ⟨_, rfl⟩
                                  have hy45 : (upd gqw416 ((nI v570) : Int32).toNatClampNeg 0) = f_636 := (congrFun hV.2.2.1 45).symm.trans (ax_of hM_648 (by decide) hv_645 hM_649)
                                  have hV : VW K L M M_659 b11 (va_up (va_up (fx M b11) 17 ((gnw416 : Nat) : Int)) 17 (((v570 + 1) : Nat) : Int)) (va_up (va_up (va_up (va_up (va_up (ax M b11) 44 gpw416) 45 gqw416) 44 (upd gpw416 ((nI v570) : Int32).toNatClampNeg (nI v6w416))) 45 (upd gqw416 ((nI v570) : Int32).toNatClampNeg 0)) 45 (upd (upd gqw416 ((nI v570) : Int32).toNatClampNeg 0) ((nI ((v570 + 1) - 1)) : Int32).toNatClampNeg (nI (c_654 + 1)))) := by rw [eM_659]; exact hV.ast (j := 45) hW hb_13 hM_648 (by decide) hv_645 hc573 hM_649
                                  have hP : va_P D vwCl ([(za, .inr (13, [.int 0, .ref z1, .int (nI z2), .int (nI z3), .int z4, .int z5, .ref z6, .ref z7, .ref z8, .ref z9, .int (nI z10), .ref z11, .ref z12, .ref z13, .ref z14, .ref z15, .int (nI z16), .ref z17, .int z18, .ref z19]))] ++ va_pl L M_659) H_658 := by rw [eM_659]; exact hP
                                  have hD : va_D A ([(za, .inr (13, [.int 0, .ref z1, .int (nI z2), .int (nI z3), .int z4, .int z5, .ref z6, .ref z7, .ref z8, .ref z9, .int (nI z10), .ref z11, .ref z12, .ref z13, .ref z14, .ref z15, .int (nI z16), .ref z17, .int z18, .ref z19]))] ++ va_pl L M_659) := by rw [eM_659]; exact hD
                                  have hW : WOM cy K L M_659 := by rw [eM_659]; exact hW.up_46 hc573 ⟨_, rfl, (updP (P := fun z => ∃ c : Nat, c < 1001 ∧ z = nI c) hf_637 ⟨(c_654 + 1), by omega, rfl⟩)⟩
                                  have hF : fr K L [12, 14, 15, 32, 42, 45, 46, 79, 80, 81, 83] M M_659 := by rw [eM_659]; exact hF.up hc573 (by decide)
                                  have hG : fG K L [1, 7, 8, 13, 14, 15, 16, 17, 18] M M_659 := by rw [eM_659]; exact hG.arr hc573 (by decide)
                                  have hM_660 : M_659 v573 = .inl (cy 14, 120, .inl (upd f_636 ((nI ((v570 + 1) - 1)) : Int32).toNatClampNeg (nI (c_654 + 1)))) := by rw [eM_659]; exact va_up_self _ _ _
                                  have hM_661 : M_659 b11 = .inr (12, fs569.set 17 (.int (nI (v570 + 1)))) := by rw [eM_659, va_up_ne _ _ (hb_13.neT hc573 (by decide))]; exact hM_648
                                  have hM_662 : M_659 v571 = .inl (cy 14, 120, .inl (f_629)) := by rw [eM_659, va_up_ne _ _ (hc571.neT hc573 (by decide))]; exact hM_650
                                  have hf_664 : ∀ j, j < 120 → ∃ c : Nat, c < 1001 ∧ (upd f_636 ((nI ((v570 + 1) - 1)) : Int32).toNatClampNeg (nI (c_654 + 1))) j = nI c := (updP (P := fun z => ∃ c : Nat, c < 1001 ∧ z = nI c) hf_637 ⟨(c_654 + 1), by omega, rfl⟩)
                                  obtain ⟨f_663, ef_663⟩ : ∃ f : Nat → Int32, f = upd f_636 ((nI ((v570 + 1) - 1)) : Int32).toNatClampNeg (nI (c_654 + 1)) := ⟨_, rfl⟩
                                  rw [← ef_663] at hM_660 hf_664
                                  refine lv_iinc (v := (nI (v6w416 + 1))) (lv' := [(6, .int (nI (v6w416 + 1))), (5, .int (-1)), (4, .int (nI c_369)), (3, .int (nI (c_26 + 1))), (2, .ref b11), (0, .ref za), (1, .int k1)]) hx hb dX13_close_232 hl (k := 0) rfl (nI_1 v6w416) (by decide) rfl (fun ls hl => ?_)
                                  refine lv_goto (tgt := 164) hx hb dX13_close_235 (by decide) ?_
                                  exact ih_414 (v6w416 + 1) (v570 + 1) (upd gpw416 ((nI v570) : Int32).toNatClampNeg (nI v6w416)) (upd (upd gqw416 ((nI v570) : Int32).toNatClampNeg 0) ((nI ((v570 + 1) - 1)) : Int32).toNatClampNeg (nI (c_654 + 1))) M_659 H_658 _ _ (by omega) (by omega) (by have h := SD.new hSD (by omega) (show (nI v570).toNatClampNeg = gnw416 from (nI_cl (by omega)).trans (by omega)) (show (nI ((v570 + 1) - 1)).toNatClampNeg = gnw416 from (nI_cl (by omega)).trans (by omega)) hcc; rw [← hgn] at h; exact h) hW hF hG (by have h := hV; simp only [va_up_up] at h; rw [va_up_4] at h; exact h) hP hD hS (lv_sub hl [0, 1, 2, 3, 4, 5, 6] rfl)
                                · have hz := rfl (a := 0)
                                  refine lv_if_eq (tgt := 217) hx hb dX13_close_183 (by decide) (fun _ => ?_) (fun c_665 => absurd c_665 (by decide))
                                  refine lv_aload_n hx hb dX13_close_217 rfl (lv_at hl 4 rfl) ?_
                                  refine pg_getN (D := D) (ci := 12) (v := .ref v573) (C := RX12) (T := TX12) (N := 51) hx hb hg inG12 hown hK hP hb_13.1 hM569 rfl 45 (by decide) (hN.use (Cond.fieldLinkNest RX13 268 RX12 "stretchDays" "[I" RX13) 54 rfl rfl) (fun _ h9 => h9) hv573 dX13_close_218 ?_
                                  refine lv_aload_n hx hb dX13_close_221 rfl (lv_at hl 4 rfl) ?_
                                  refine pg_getN (D := D) (ci := 12) (v := .int (nI v570)) (C := RX12) (T := TX12) (N := 51) hx hb hg inG12 hown hK hP hb_13.1 hM569 rfl 17 (by decide) (hN.use (Cond.fieldLinkNest RX13 256 RX12 "stretches" "I" RX13) 26 rfl rfl) (fun _ h9 => h9) hv570 dX13_close_222 ?_
                                  refine lv_iconst (v := 1) hx hb dX13_close_225 (by decide) ?_
                                  refine lv_isub hx hb dX13_close_226 ?_
                                  refine lv_topi (fun f_666 ef_666 => ?_)
                                  obtain rfl : f_666 = (nI (v570 - 1)) := ef_666.trans (nI_prd (by omega))
                                  refine lv_dup2_11 hx hb dX13_close_227 rfl rfl ?_
                                  have hi_667 : vp_in (nI (v570 - 1)) 120 := (inbN (v570 - 1) 120 (by omega) (by omega))
                                  refine pg_iald hx hb hK hP hc573.1 0 hM574 rfl hi_667 dX13_close_228 ?_
                                  have hp_668 := hf574 _ (vp_lt hi_667)
                                  obtain ⟨c_669, hc_670, ec_671⟩ := hp_668
                                  rw [ec_671]
                                  have hy45 : gqw416 = f574 := (congrFun hV.2.2.1 45).symm.trans (ax_of hM569 (by decide) hv573 hM574)
                                  have hec : gqw416 ((nI (v570 - 1)) : Int32).toNatClampNeg = nI c_669 := by rw [hy45]; exact ec_671
                                  have hcc : c_669 ≤ v6w416 := SD.c hSD (by omega) ((nI_cl (by omega)).trans (by omega)) hec (by omega)
                                  refine lv_iconst (v := 1) hx hb dX13_close_229 (by decide) ?_
                                  refine lv_iadd hx hb dX13_close_230 ?_
                                  refine lv_topi (fun f_672 ef_672 => ?_)
                                  obtain rfl : f_672 = (nI (c_669 + 1)) := ef_672.trans (nI_add c_669 1)
                                  refine pg_iast hx hb hK hP hD hS hc573.1 0 hM574 rfl (inbN (v570 - 1) 120 (by omega) (by omega)) dX13_close_231 (fun H_673 locs hP hD hS => ?_)
                                  obtain ⟨M_674, eM_674⟩ : ∃ M1 : Hp, M1 = va_up M_419 v573 (.inl (cy 14, 120, .inl (upd f574 ((nI (v570 - 1)) : Int32).toNatClampNeg (nI (c_669 + 1))))) := ⟨_, rfl⟩
                                  have hy45 : gqw416 = f574 := (congrFun hV.2.2.1 45).symm.trans (ax_of hM569 (by decide) hv573 hM574)
                                  have hV : VW K L M M_674 b11 (va_up (fx M b11) 17 ((gnw416 : Nat) : Int)) (va_up (va_up (va_up (ax M b11) 44 gpw416) 45 gqw416) 45 (upd gqw416 ((nI (v570 - 1)) : Int32).toNatClampNeg (nI (c_669 + 1)))) := by rw [eM_674]; exact hV.ast (j := 45) hW hb_13 hM569 (by decide) hv573 hc573 hM574
                                  have hP : va_P D vwCl ([(za, .inr (13, [.int 0, .ref z1, .int (nI z2), .int (nI z3), .int z4, .int z5, .ref z6, .ref z7, .ref z8, .ref z9, .int (nI z10), .ref z11, .ref z12, .ref z13, .ref z14, .ref z15, .int (nI z16), .ref z17, .int z18, .ref z19]))] ++ va_pl L M_674) H_673 := by rw [eM_674]; exact hP
                                  have hD : va_D A ([(za, .inr (13, [.int 0, .ref z1, .int (nI z2), .int (nI z3), .int z4, .int z5, .ref z6, .ref z7, .ref z8, .ref z9, .int (nI z10), .ref z11, .ref z12, .ref z13, .ref z14, .ref z15, .int (nI z16), .ref z17, .int z18, .ref z19]))] ++ va_pl L M_674) := by rw [eM_674]; exact hD
                                  have hW : WOM cy K L M_674 := by rw [eM_674]; exact hW.up_46 hc573 ⟨_, rfl, (updP (P := fun z => ∃ c : Nat, c < 1001 ∧ z = nI c) hf574 ⟨(c_669 + 1), by omega, rfl⟩)⟩
                                  have hF : fr K L [12, 14, 15, 32, 42, 45, 46, 79, 80, 81, 83] M M_674 := by rw [eM_674]; exact hF.up hc573 (by decide)
                                  have hG : fG K L [1, 7, 8, 13, 14, 15, 16, 17, 18] M M_674 := by rw [eM_674]; exact hG.arr hc573 (by decide)
                                  have hM_675 : M_674 v573 = .inl (cy 14, 120, .inl (upd f574 ((nI (v570 - 1)) : Int32).toNatClampNeg (nI (c_669 + 1)))) := by rw [eM_674]; exact va_up_self _ _ _
                                  have hM_676 : M_674 b11 = .inr (12, fs569) := by rw [eM_674, va_up_ne _ _ (hb_13.neT hc573 (by decide))]; exact hM569
                                  have hM_677 : M_674 v571 = .inl (cy 14, 120, .inl (f572)) := by rw [eM_674, va_up_ne _ _ (hc571.neT hc573 (by decide))]; exact hM572
                                  have hf_679 : ∀ j, j < 120 → ∃ c : Nat, c < 1001 ∧ (upd f574 ((nI (v570 - 1)) : Int32).toNatClampNeg (nI (c_669 + 1))) j = nI c := (updP (P := fun z => ∃ c : Nat, c < 1001 ∧ z = nI c) hf574 ⟨(c_669 + 1), by omega, rfl⟩)
                                  obtain ⟨f_678, ef_678⟩ : ∃ f : Nat → Int32, f = upd f574 ((nI (v570 - 1)) : Int32).toNatClampNeg (nI (c_669 + 1)) := ⟨_, rfl⟩
                                  rw [← ef_678] at hM_675 hf_679
                                  refine lv_iinc (v := (nI (v6w416 + 1))) (lv' := [(6, .int (nI (v6w416 + 1))), (5, .int (-1)), (4, .int (nI c_369)), (3, .int (nI (c_26 + 1))), (2, .ref b11), (0, .ref za), (1, .int k1)]) hx hb dX13_close_232 hl (k := 0) rfl (nI_1 v6w416) (by decide) rfl (fun ls hl => ?_)
                                  refine lv_goto (tgt := 164) hx hb dX13_close_235 (by decide) ?_
                                  exact ih_414 (v6w416 + 1) gnw416 gpw416 (upd gqw416 ((nI (v570 - 1)) : Int32).toNatClampNeg (nI (c_669 + 1))) M_674 H_673 _ _ (by omega) (by omega) (SD.old hSD (by omega) ((nI_cl (by omega)).trans (by omega)) hec (by omega)) hW hF hG (by have h := hV; simp only [va_up_up] at h; exact h) hP hD hS (lv_sub hl [0, 1, 2, 3, 4, 5, 6] rfl)
                        exact key_413 (1001 - (c_26 + 1) + 1) (c_26 + 1) 0 (ax M b11 44) (ax M b11 45) M_408 H_409 _ _ (by omega) (by omega) (SD.rf _ _ _) hW hF hG (by rw [va_up_id, va_up_id]; exact hV) hP hD hS (lv_sub hl [0, 1, 2, 3, 4, 5, 6] rfl)
                      · have hz := rfl (a := 0)
                        have n_680 : ¬ (24 ≤ v6w406) := fun q => c_411 ((iLE (a := 24) (b := v6w406) (by omega) (by omega)).mpr q)
                        refine lv_aload_n hx hb dX13_close_147 rfl (lv_at hl 4 rfl) ?_
                        obtain ⟨v681, hv681, hc681⟩ : ∃ v : Nat, (fs14.set 17 (.int 0))[33]? = some (.ref v : Value) ∧ isk K L v 15 24 := hk_391 33 (by decide)
                        refine pg_getN (D := D) (ci := 12) (v := .ref v681) (C := RX12) (T := TX12) (N := 51) hx hb hg inG12 hown hK hP hb_13.1 hM_410 rfl 33 (by decide) (hN.use (Cond.fieldLinkNest RX13 259 RX12 "dues" "[J" RX13) 42 rfl rfl) (fun _ h9 => h9) hv681 dX13_close_148 ?_
                        refine lv_iload hx hb dX13_close_151 (lv_at hl 0 rfl) ?_
                        refine lv_lconst (v := 0) hx hb dX13_close_153 (by decide) ?_
                        obtain ⟨f682, hM682⟩ := hW.open_15 hc681
                        refine pg_last hx hb hK hP hD hS hc681.1 1 hM682 rfl (inbN v6w406 24 (by omega) (by omega)) dX13_close_154 (fun H_683 locs hP hD hS => ?_)
                        obtain ⟨M_684, eM_684⟩ : ∃ M1 : Hp, M1 = va_up M_408 v681 (.inl (cy 15, 24, .inr (.inl (vp_updL f682 ((nI v6w406) : Int32).toNatClampNeg 0)))) := ⟨_, rfl⟩
                        have hV : VW K L M M_684 b11 (va_up (fx M b11) 17 (0 : Int)) (ax M b11) := by rw [eM_684]; exact hV.oth hW hb_13 hc681 (by decide)
                        have hP : va_P D vwCl ([(za, .inr (13, [.int 0, .ref z1, .int (nI z2), .int (nI z3), .int z4, .int z5, .ref z6, .ref z7, .ref z8, .ref z9, .int (nI z10), .ref z11, .ref z12, .ref z13, .ref z14, .ref z15, .int (nI z16), .ref z17, .int z18, .ref z19]))] ++ va_pl L M_684) H_683 := by rw [eM_684]; exact hP
                        have hD : va_D A ([(za, .inr (13, [.int 0, .ref z1, .int (nI z2), .int (nI z3), .int z4, .int z5, .ref z6, .ref z7, .ref z8, .ref z9, .int (nI z10), .ref z11, .ref z12, .ref z13, .ref z14, .ref z15, .int (nI z16), .ref z17, .int z18, .ref z19]))] ++ va_pl L M_684) := by rw [eM_684]; exact hD
                        have hW : WOM cy K L M_684 := by rw [eM_684]; exact hW.up_15 hc681 ⟨_, rfl⟩
                        have hF : fr K L [12, 14, 15, 32, 42, 45, 46, 79, 80, 81, 83] M M_684 := by rw [eM_684]; exact hF.up hc681 (by decide)
                        have hG : fG K L [1, 7, 8, 13, 14, 15, 16, 17, 18] M M_684 := by rw [eM_684]; exact hG.arr hc681 (by decide)
                        have hM_685 : M_684 v681 = .inl (cy 15, 24, .inr (.inl (vp_updL f682 ((nI v6w406) : Int32).toNatClampNeg 0))) := by rw [eM_684]; exact va_up_self _ _ _
                        have hM_686 : M_684 b11 = .inr (12, fs14.set 17 (.int 0)) := by rw [eM_684, va_up_ne _ _ (hb_13.neT hc681 (by decide))]; exact hM_410
                        obtain ⟨f_687, ef_687⟩ : ∃ f : Nat → Int64, f = vp_updL f682 ((nI v6w406) : Int32).toNatClampNeg 0 := ⟨_, rfl⟩
                        rw [← ef_687] at hM_685
                        refine lv_iinc (v := (nI (v6w406 + 1))) (lv' := [(6, .int (nI (v6w406 + 1))), (5, .int (-1)), (4, .int (nI c_369)), (3, .int (nI (c_26 + 1))), (2, .ref b11), (0, .ref za), (1, .int k1)]) hx hb dX13_close_155 hl (k := 0) rfl (nI_1 v6w406) (by decide) rfl (fun ls hl => ?_)
                        refine lv_goto (tgt := 140) hx hb dX13_close_158 (by decide) ?_
                        exact ih_404 (v6w406 + 1) M_684 H_683 _ _ (by omega) hM_686 (by omega) hW hF hG hV hP hD hS (lv_sub hl [0, 1, 2, 3, 4, 5, 6] rfl)
                  exact key_403 (24 - 0 + 1) 0 M_401 H_389 _ _ (by omega) hM_402 (by omega) hW hF hG hV hP hD hS (lv_sub hl [0, 1, 2, 3, 4, 5, 6] rfl)
                · have hz := rfl (a := 0)
                  refine lv_istore (lv' := [(5, .int (nI j_386)), (4, .int (nI c_369)), (3, .int (nI (c_26 + 1))), (2, .ref b11), (0, .ref za), (1, .int k1)]) hx hb dX13_close_115 hl (by decide) rfl (fun ls hl => ?_)
                  refine lv_iload hx hb dX13_close_117 (lv_at hl 0 rfl) ?_
                  refine lv_iconst (v := (-1)) hx hb dX13_close_119 (by decide) ?_
                  refine lv_icmp_eq (tgt := 132) hx hb dX13_close_120 (by decide) (fun c_688 => absurd c_688 (nI_ne_m1 (by omega))) (fun _ => ?_)
                  refine lv_aload_n hx hb dX13_close_123 rfl (lv_at hl 4 rfl) ?_
                  refine lv_bipush (v := 7) hx hb dX13_close_124 (by decide) ?_
                  refine lv_iload hx hb dX13_close_126 (lv_at hl 0 rfl) ?_
                  have hPc := hP.sub (ws' := [(za, .inr (13, [.int 0, .ref z1, .int (nI z2), .int (nI z3), .int z4, .int z5, .ref z6, .ref z7, .ref z8, .ref z9, .int (nI z10), .ref z11, .ref z12, .ref z13, .ref z14, .ref z15, .int (nI z16), .ref z17, .int z18, .ref z19]))]) [0] rfl
                  have hDc := hD.sub (ws' := [(za, .inr (13, [.int 0, .ref z1, .int (nI z2), .int (nI z3), .int z4, .int z5, .ref z6, .ref z7, .ref z8, .ref z9, .int (nI z10), .ref z11, .ref z12, .ref z13, .ref z14, .ref z15, .int (nI z16), .ref z17, .int z18, .ref z19]))]) [0] (by decide) rfl
                  have hKc := hK.sub (tys' := []) [] rfl
                  have hFc := va_free (wc := [(za, .inr (13, [.int 0, .ref z1, .int (nI z2), .int (nI z3), .int z4, .int z5, .ref z6, .ref z7, .ref z8, .ref z9, .int (nI z10), .ref z11, .ref z12, .ref z13, .ref z14, .ref z15, .int (nI z16), .ref z17, .int z18, .ref z19]))]) hD hS hA [0] rfl
                  refine va_calli (va_runV (As := [.int 7, .int (nI j_386)]) (rest := []) ⟨hx, hb, hml, hown, hg⟩ (m_refusedAt l D H_382.size za 0 z1 (nI z2) (nI z3) z4 z5 z6 z7 z8 z9 (nI z10) z11 z12 z13 z14 z15 (nI z16) z17 z18 z19 7 (nI j_386)) (cwV 2 hg (gV wd_882 wd_883 wd_884 wd_717 wd_885) rfl rfl rfl (by decide +kernel) ⟨(Nat.le_trans (Nat.le_of_ble_eq_true rfl) hRf), (Nat.le_trans (Nat.le_of_ble_eq_true rfl) hRl)⟩) ⟨Pr.blind, va_recv hK hP (ci := 13) (q0 := 0) rfl rfl, fun U hU hW => ⟨rfl, Pr.at hPc hKc hDc hN hU hW⟩⟩ rfl rfl hl.1 rfl (lv_room (Nat.le_of_ble_eq_true rfl)) dX13_close_128 ⟨(Nat.le_trans (Nat.le_of_ble_eq_true rfl) hRc), (Nat.le_trans (Nat.le_of_ble_eq_true rfl) hRs)⟩) hS (fun q _ h => hFc q h) hFc (fun r_690 M_691 t H_689 locs ht hvm hw hB hz1 hk1 hS => ?_)
                  have hp_692 := hw
                  obtain ⟨hP1, hK1, hD1⟩ := hB
                  rw [ht] at hP1
                  obtain ⟨hP, hD⟩ := va_joinQ (X := [(za, .inr (13, [.int 0, .ref z1, .int (nI z2), .int (nI z3), .int z4, .int z5, .ref z6, .ref z7, .ref z8, .ref z9, .int (nI z10), .ref z11, .ref z12, .ref z13, .ref z14, .ref z15, .int (nI z16), .ref z17, .int z18, .ref z19]))]) (cx := [(za, .inr (13, [.int 0, .ref z1, .int (nI z2), .int (nI z3), .int z4, .int z5, .ref z6, .ref z7, .ref z8, .ref z9, .int (nI z10), .ref z11, .ref z12, .ref z13, .ref z14, .ref z15, .int (nI z16), .ref z17, .int z18, .ref z19]))]) (wr := []) (w1 := [(za, .inr (13, [.int 0, .ref z1, .int (nI z2), .int (nI z3), .int 7, .int (nI j_386), .ref z6, .ref z7, .ref z8, .ref z9, .int (nI z10), .ref z11, .ref z12, .ref z13, .ref z14, .ref z15, .int (nI z16), .ref z17, .int z18, .ref z19]))]) (pl := va_pl L M_377) hP hD [0] [] rfl rfl (by decide) (by decide) hk1 hFc hP1 hD1
                  have hP : va_P D vwCl ([(za, .inr (13, [.int 0, .ref z1, .int (nI z2), .int (nI z3), .int 7, .int (nI j_386), .ref z6, .ref z7, .ref z8, .ref z9, .int (nI z10), .ref z11, .ref z12, .ref z13, .ref z14, .ref z15, .int (nI z16), .ref z17, .int z18, .ref z19]))] ++ va_pl L M_377) H_689 := hP
                  have hD : va_D A ([(za, .inr (13, [.int 0, .ref z1, .int (nI z2), .int (nI z3), .int 7, .int (nI j_386), .ref z6, .ref z7, .ref z8, .ref z9, .int (nI z10), .ref z11, .ref z12, .ref z13, .ref z14, .ref z15, .int (nI z16), .ref z17, .int z18, .ref z19]))] ++ va_pl L M_377) := hD
                  have hq := Eq.symm hp_692
                  subst hq
                  have hA9 : HA (ax M b11 2) (ax M b11 3) := hAT.1
                  have hB9 : HB (fx M b11 16) (fx M b11 14) (ax M b11 3) (ax M b11 43) := hAT.2.1
                  have hC9 : HC (fx M b11 10) (ax M b11 22) (ax M b11 23) := hAT.2.2.1
                  have hD9 : HD (fx M b11 0) (fx M b11 11) (fx M b11 15) (ax M b11 34) (ax M b11 41) := hAT.2.2.2.1
                  have hE9 : HE (fx M b11 0) (fx M b11 1) (fx M b11 12) (fx M b11 13) (ax M b11 37) := hAT.2.2.2.2
                  have hH9 : HI (fx M b11) (ax M b11) := ⟨hA9, hB9, hC9, hD9, hE9⟩
                  have hGI9 : GI K L z1 z2 M_377 := GI.fin hW0 i1 b2 hGI hact hV (hF.at i1 (by decide)) hH9
                  rw [hQ]
                  exact W.iret (v := (-1)) hx hb hr (fun t ht hW9 => ⟨⟨(-1), M_377, rfl, ⟨hW, hF, hG, hGI9, trivial⟩, ⟨7, (nI j_386), z16, (by omega), by rw [ht]; exact hP, hD⟩⟩, hS.F ht⟩) hS.2.2 dX13_close_131
              · have hz := rfl (a := 0)
                have n_693 : ¬ (c_369 < v5w375) := fun q => c_380 ((iLT (a := c_369) (b := v5w375) (by omega) (by omega)).mpr q)
                refine lv_aload_n hx hb dX13_close_85 rfl (lv_at hl 3 rfl) ?_
                refine lv_iload hx hb dX13_close_86 (lv_at hl 0 rfl) ?_
                have hPc : va_P D vwCl ([] ++ va_pl L M_377) H_378 := hP.part (cx := []) [] rfl
                have hDc : va_D A ([] ++ va_pl L M_377) := hD.part (cx := []) [] (by decide) rfl
                have hFc : ∀ q, va_A ([] ++ va_pl L M_377) H_378.size q → A q := pg_free hDc hS hA
                refine va_calli (va_runV (As := [.int (nI v5w375)]) (rest := []) ⟨hx, hb, hml, hown, hg⟩ (r_X12_isOpen l D cy K L M_377 H_378.size b11 v5w375  hW hb_13 (by omega)) (cwV 1 hg (gV wd_752 wd_753 wd_754 wd_737 wd_755) rfl rfl rfl (by decide +kernel) ⟨(Nat.le_trans (Nat.le_of_ble_eq_true rfl) hRf), (Nat.le_trans (Nat.le_of_ble_eq_true rfl) hRl)⟩) ⟨PG.blind, pg_recv hK hP hb_13.1 hM_379 rfl, fun U hU hW => ⟨rfl, PG.at hPc hK hDc hN hU hW⟩⟩ rfl rfl hl.1 rfl (lv_room (Nat.le_of_ble_eq_true rfl)) dX13_close_88 ⟨(Nat.le_trans (Nat.le_of_ble_eq_true rfl) hRc), (Nat.le_trans (Nat.le_of_ble_eq_true rfl) hRs)⟩) hS (fun q _ h => hFc q h) hFc (fun r_695 M_696 t H_694 locs ht hvm hw hB hz1 hk1 hS => ?_)
                have hp_697 := hw
                obtain ⟨hP1, hD1⟩ := hB
                rw [ht] at hP1
                obtain ⟨hP, hD⟩ := va_joinP (X := [(za, .inr (13, [.int 0, .ref z1, .int (nI z2), .int (nI z3), .int z4, .int z5, .ref z6, .ref z7, .ref z8, .ref z9, .int (nI z10), .ref z11, .ref z12, .ref z13, .ref z14, .ref z15, .int (nI z16), .ref z17, .int z18, .ref z19]))]) (cx := []) (wr := [(za, .inr (13, [.int 0, .ref z1, .int (nI z2), .int (nI z3), .int z4, .int z5, .ref z6, .ref z7, .ref z8, .ref z9, .int (nI z10), .ref z11, .ref z12, .ref z13, .ref z14, .ref z15, .int (nI z16), .ref z17, .int z18, .ref z19]))]) (rx := []) (pl := va_pl L M_377) (pl1 := va_pl L M_377) hP hD [] [0] rfl rfl (by decide) (by decide) hk1 hFc hP1 hD1
                have hP : va_P D vwCl ([(za, .inr (13, [.int 0, .ref z1, .int (nI z2), .int (nI z3), .int z4, .int z5, .ref z6, .ref z7, .ref z8, .ref z9, .int (nI z10), .ref z11, .ref z12, .ref z13, .ref z14, .ref z15, .int (nI z16), .ref z17, .int z18, .ref z19]))] ++ va_pl L M_377) H_694 := hP
                have hD : va_D A ([(za, .inr (13, [.int 0, .ref z1, .int (nI z2), .int (nI z3), .int z4, .int z5, .ref z6, .ref z7, .ref z8, .ref z9, .int (nI z10), .ref z11, .ref z12, .ref z13, .ref z14, .ref z15, .int (nI z16), .ref z17, .int z18, .ref z19]))] ++ va_pl L M_377) := hD
                rcases hp_697 with rfl | rfl
                · have hz := rfl (a := 0)
                  refine lv_if_eq (tgt := 102) hx hb dX13_close_91 (by decide) (fun c_698 => absurd c_698 (by decide)) (fun _ => ?_)
                  refine lv_aload_n hx hb dX13_close_94 rfl (lv_at hl 4 rfl) ?_
                  refine lv_iconst (v := 5) hx hb dX13_close_95 (by decide) ?_
                  refine lv_iload hx hb dX13_close_96 (lv_at hl 0 rfl) ?_
                  have hPc := hP.sub (ws' := [(za, .inr (13, [.int 0, .ref z1, .int (nI z2), .int (nI z3), .int z4, .int z5, .ref z6, .ref z7, .ref z8, .ref z9, .int (nI z10), .ref z11, .ref z12, .ref z13, .ref z14, .ref z15, .int (nI z16), .ref z17, .int z18, .ref z19]))]) [0] rfl
                  have hDc := hD.sub (ws' := [(za, .inr (13, [.int 0, .ref z1, .int (nI z2), .int (nI z3), .int z4, .int z5, .ref z6, .ref z7, .ref z8, .ref z9, .int (nI z10), .ref z11, .ref z12, .ref z13, .ref z14, .ref z15, .int (nI z16), .ref z17, .int z18, .ref z19]))]) [0] (by decide) rfl
                  have hKc := hK.sub (tys' := []) [] rfl
                  have hFc := va_free (wc := [(za, .inr (13, [.int 0, .ref z1, .int (nI z2), .int (nI z3), .int z4, .int z5, .ref z6, .ref z7, .ref z8, .ref z9, .int (nI z10), .ref z11, .ref z12, .ref z13, .ref z14, .ref z15, .int (nI z16), .ref z17, .int z18, .ref z19]))]) hD hS hA [0] rfl
                  refine va_calli (va_runV (As := [.int 5, .int (nI v5w375)]) (rest := []) ⟨hx, hb, hml, hown, hg⟩ (m_refusedAt l D H_694.size za 0 z1 (nI z2) (nI z3) z4 z5 z6 z7 z8 z9 (nI z10) z11 z12 z13 z14 z15 (nI z16) z17 z18 z19 5 (nI v5w375)) (cwV 2 hg (gV wd_882 wd_883 wd_884 wd_717 wd_885) rfl rfl rfl (by decide +kernel) ⟨(Nat.le_trans (Nat.le_of_ble_eq_true rfl) hRf), (Nat.le_trans (Nat.le_of_ble_eq_true rfl) hRl)⟩) ⟨Pr.blind, va_recv hK hP (ci := 13) (q0 := 0) rfl rfl, fun U hU hW => ⟨rfl, Pr.at hPc hKc hDc hN hU hW⟩⟩ rfl rfl hl.1 rfl (lv_room (Nat.le_of_ble_eq_true rfl)) dX13_close_98 ⟨(Nat.le_trans (Nat.le_of_ble_eq_true rfl) hRc), (Nat.le_trans (Nat.le_of_ble_eq_true rfl) hRs)⟩) hS (fun q _ h => hFc q h) hFc (fun r_700 M_701 t H_699 locs ht hvm hw hB hz1 hk1 hS => ?_)
                  have hp_702 := hw
                  obtain ⟨hP1, hK1, hD1⟩ := hB
                  rw [ht] at hP1
                  obtain ⟨hP, hD⟩ := va_joinQ (X := [(za, .inr (13, [.int 0, .ref z1, .int (nI z2), .int (nI z3), .int z4, .int z5, .ref z6, .ref z7, .ref z8, .ref z9, .int (nI z10), .ref z11, .ref z12, .ref z13, .ref z14, .ref z15, .int (nI z16), .ref z17, .int z18, .ref z19]))]) (cx := [(za, .inr (13, [.int 0, .ref z1, .int (nI z2), .int (nI z3), .int z4, .int z5, .ref z6, .ref z7, .ref z8, .ref z9, .int (nI z10), .ref z11, .ref z12, .ref z13, .ref z14, .ref z15, .int (nI z16), .ref z17, .int z18, .ref z19]))]) (wr := []) (w1 := [(za, .inr (13, [.int 0, .ref z1, .int (nI z2), .int (nI z3), .int 5, .int (nI v5w375), .ref z6, .ref z7, .ref z8, .ref z9, .int (nI z10), .ref z11, .ref z12, .ref z13, .ref z14, .ref z15, .int (nI z16), .ref z17, .int z18, .ref z19]))]) (pl := va_pl L M_377) hP hD [0] [] rfl rfl (by decide) (by decide) hk1 hFc hP1 hD1
                  have hP : va_P D vwCl ([(za, .inr (13, [.int 0, .ref z1, .int (nI z2), .int (nI z3), .int 5, .int (nI v5w375), .ref z6, .ref z7, .ref z8, .ref z9, .int (nI z10), .ref z11, .ref z12, .ref z13, .ref z14, .ref z15, .int (nI z16), .ref z17, .int z18, .ref z19]))] ++ va_pl L M_377) H_699 := hP
                  have hD : va_D A ([(za, .inr (13, [.int 0, .ref z1, .int (nI z2), .int (nI z3), .int 5, .int (nI v5w375), .ref z6, .ref z7, .ref z8, .ref z9, .int (nI z10), .ref z11, .ref z12, .ref z13, .ref z14, .ref z15, .int (nI z16), .ref z17, .int z18, .ref z19]))] ++ va_pl L M_377) := hD
                  have hq := Eq.symm hp_702
                  subst hq
                  have hA9 : HA (ax M b11 2) (ax M b11 3) := hAT.1
                  have hB9 : HB (fx M b11 16) (fx M b11 14) (ax M b11 3) (ax M b11 43) := hAT.2.1
                  have hC9 : HC (fx M b11 10) (ax M b11 22) (ax M b11 23) := hAT.2.2.1
                  have hD9 : HD (fx M b11 0) (fx M b11 11) (fx M b11 15) (ax M b11 34) (ax M b11 41) := hAT.2.2.2.1
                  have hE9 : HE (fx M b11 0) (fx M b11 1) (fx M b11 12) (fx M b11 13) (ax M b11 37) := hAT.2.2.2.2
                  have hH9 : HI (fx M b11) (ax M b11) := ⟨hA9, hB9, hC9, hD9, hE9⟩
                  have hGI9 : GI K L z1 z2 M_377 := GI.fin hW0 i1 b2 hGI hact hV (hF.at i1 (by decide)) hH9
                  rw [hQ]
                  exact W.iret (v := (-1)) hx hb hr (fun t ht hW9 => ⟨⟨(-1), M_377, rfl, ⟨hW, hF, hG, hGI9, trivial⟩, ⟨5, (nI v5w375), z16, (by omega), by rw [ht]; exact hP, hD⟩⟩, hS.F ht⟩) hS.2.2 dX13_close_101
                · have hz := rfl (a := 0)
                  refine lv_if_eq (tgt := 102) hx hb dX13_close_91 (by decide) (fun _ => ?_) (fun c_703 => absurd c_703 (by decide))
                  refine lv_iinc (v := (nI (v5w375 + 1))) (lv' := [(5, .int (nI (v5w375 + 1))), (4, .int (nI c_369)), (3, .int (nI (c_26 + 1))), (2, .ref b11), (0, .ref za), (1, .int k1)]) hx hb dX13_close_102 hl (k := 0) rfl (nI_1 v5w375) (by decide) rfl (fun ls hl => ?_)
                  refine lv_goto (tgt := 78) hx hb dX13_close_105 (by decide) ?_
                  exact ih_373 (v5w375 + 1) M_377 H_694 _ _ (by omega) hM_379 (by omega) hW hF hG hV hP hD hS (lv_sub hl [0, 1, 2, 3, 4, 5] rfl)
          exact key_372 (1001 - (c_26 + 1) + 1) (c_26 + 1) M H_2 _ _ (by omega) hM14 (by omega) hW hF hG hV hP hD hS (lv_sub hl [0, 1, 2, 3, 4, 5] rfl)
      · have hz := rfl (a := 0)
        have n_704 : v17 = 0 := (iEQ (a := v17) (b := 0) (by omega) (by omega)).mp c_24
        refine lv_aload_n hx hb dX13_close_51 rfl (lv_at hl 1 rfl) ?_
        refine lv_iconst (v := 1) hx hb dX13_close_52 (by decide) ?_
        have hPc := hP.sub (ws' := [(za, .inr (13, [.int 0, .ref z1, .int (nI z2), .int (nI z3), .int z4, .int z5, .ref z6, .ref z7, .ref z8, .ref z9, .int (nI z10), .ref z11, .ref z12, .ref z13, .ref z14, .ref z15, .int (nI z16), .ref z17, .int z18, .ref z19]))]) [0] rfl
        have hDc := hD.sub (ws' := [(za, .inr (13, [.int 0, .ref z1, .int (nI z2), .int (nI z3), .int z4, .int z5, .ref z6, .ref z7, .ref z8, .ref z9, .int (nI z10), .ref z11, .ref z12, .ref z13, .ref z14, .ref z15, .int (nI z16), .ref z17, .int z18, .ref z19]))]) [0] (by decide) rfl
        have hKc := hK.sub (tys' := []) [] rfl
        have hFc := va_free (wc := [(za, .inr (13, [.int 0, .ref z1, .int (nI z2), .int (nI z3), .int z4, .int z5, .ref z6, .ref z7, .ref z8, .ref z9, .int (nI z10), .ref z11, .ref z12, .ref z13, .ref z14, .ref z15, .int (nI z16), .ref z17, .int z18, .ref z19]))]) hD hS hA [0] rfl
        refine va_calli (va_runV (As := [.int 1]) (rest := []) ⟨hx, hb, hml, hown, hg⟩ (m_refused l D H_2.size za 0 z1 (nI z2) (nI z3) z4 z5 z6 z7 z8 z9 (nI z10) z11 z12 z13 z14 z15 (nI z16) z17 z18 z19 1) (cwV 1 hg (gV wd_725 wd_726 wd_727 wd_717 wd_728) rfl rfl rfl (by decide +kernel) ⟨(Nat.le_trans (Nat.le_of_ble_eq_true rfl) hRf), (Nat.le_trans (Nat.le_of_ble_eq_true rfl) hRl)⟩) ⟨Pr.blind, va_recv hK hP (ci := 13) (q0 := 0) rfl rfl, fun U hU hW => ⟨rfl, Pr.at hPc hKc hDc hN hU hW⟩⟩ rfl rfl hl.1 rfl (lv_room (Nat.le_of_ble_eq_true rfl)) dX13_close_53 ⟨(Nat.le_trans (Nat.le_of_ble_eq_true rfl) hRc), (Nat.le_trans (Nat.le_of_ble_eq_true rfl) hRs)⟩) hS (fun q _ h => hFc q h) hFc (fun r_706 M_707 t H_705 locs ht hvm hw hB hz1 hk1 hS => ?_)
        have hp_708 := hw
        obtain ⟨hP1, hK1, hD1⟩ := hB
        rw [ht] at hP1
        obtain ⟨hP, hD⟩ := va_joinQ (X := [(za, .inr (13, [.int 0, .ref z1, .int (nI z2), .int (nI z3), .int z4, .int z5, .ref z6, .ref z7, .ref z8, .ref z9, .int (nI z10), .ref z11, .ref z12, .ref z13, .ref z14, .ref z15, .int (nI z16), .ref z17, .int z18, .ref z19]))]) (cx := [(za, .inr (13, [.int 0, .ref z1, .int (nI z2), .int (nI z3), .int z4, .int z5, .ref z6, .ref z7, .ref z8, .ref z9, .int (nI z10), .ref z11, .ref z12, .ref z13, .ref z14, .ref z15, .int (nI z16), .ref z17, .int z18, .ref z19]))]) (wr := []) (w1 := [(za, .inr (13, [.int 0, .ref z1, .int (nI z2), .int (nI z3), .int 1, .int (-1), .ref z6, .ref z7, .ref z8, .ref z9, .int (nI z10), .ref z11, .ref z12, .ref z13, .ref z14, .ref z15, .int (nI z16), .ref z17, .int z18, .ref z19]))]) (pl := va_pl L M) hP hD [0] [] rfl rfl (by decide) (by decide) hk1 hFc hP1 hD1
        have hP : va_P D vwCl ([(za, .inr (13, [.int 0, .ref z1, .int (nI z2), .int (nI z3), .int 1, .int (-1), .ref z6, .ref z7, .ref z8, .ref z9, .int (nI z10), .ref z11, .ref z12, .ref z13, .ref z14, .ref z15, .int (nI z16), .ref z17, .int z18, .ref z19]))] ++ va_pl L M) H_705 := hP
        have hD : va_D A ([(za, .inr (13, [.int 0, .ref z1, .int (nI z2), .int (nI z3), .int 1, .int (-1), .ref z6, .ref z7, .ref z8, .ref z9, .int (nI z10), .ref z11, .ref z12, .ref z13, .ref z14, .ref z15, .int (nI z16), .ref z17, .int z18, .ref z19]))] ++ va_pl L M) := hD
        have hq := Eq.symm hp_708
        subst hq
        rw [hQ]
        exact W.iret (v := (-1)) hx hb hr (fun t ht hW9 => ⟨⟨(-1), M, rfl, ⟨hW, hF, hG, hGI, trivial⟩, ⟨1, (-1), z16, (by omega), by rw [ht]; exact hP, hD⟩⟩, hS.F ht⟩) hS.2.2 dX13_close_56
    · have hz := rfl (a := 0)
      have n_709 : v19 = v18 := (iEQ (a := v19) (b := v18) (by omega) (by omega)).mp c_22
      refine lv_aload_n hx hb dX13_close_37 rfl (lv_at hl 1 rfl) ?_
      refine lv_bipush (v := 6) hx hb dX13_close_38 (by decide) ?_
      have hPc := hP.sub (ws' := [(za, .inr (13, [.int 0, .ref z1, .int (nI z2), .int (nI z3), .int z4, .int z5, .ref z6, .ref z7, .ref z8, .ref z9, .int (nI z10), .ref z11, .ref z12, .ref z13, .ref z14, .ref z15, .int (nI z16), .ref z17, .int z18, .ref z19]))]) [0] rfl
      have hDc := hD.sub (ws' := [(za, .inr (13, [.int 0, .ref z1, .int (nI z2), .int (nI z3), .int z4, .int z5, .ref z6, .ref z7, .ref z8, .ref z9, .int (nI z10), .ref z11, .ref z12, .ref z13, .ref z14, .ref z15, .int (nI z16), .ref z17, .int z18, .ref z19]))]) [0] (by decide) rfl
      have hKc := hK.sub (tys' := []) [] rfl
      have hFc := va_free (wc := [(za, .inr (13, [.int 0, .ref z1, .int (nI z2), .int (nI z3), .int z4, .int z5, .ref z6, .ref z7, .ref z8, .ref z9, .int (nI z10), .ref z11, .ref z12, .ref z13, .ref z14, .ref z15, .int (nI z16), .ref z17, .int z18, .ref z19]))]) hD hS hA [0] rfl
      refine va_calli (va_runV (As := [.int 6]) (rest := []) ⟨hx, hb, hml, hown, hg⟩ (m_refused l D H_2.size za 0 z1 (nI z2) (nI z3) z4 z5 z6 z7 z8 z9 (nI z10) z11 z12 z13 z14 z15 (nI z16) z17 z18 z19 6) (cwV 1 hg (gV wd_725 wd_726 wd_727 wd_717 wd_728) rfl rfl rfl (by decide +kernel) ⟨(Nat.le_trans (Nat.le_of_ble_eq_true rfl) hRf), (Nat.le_trans (Nat.le_of_ble_eq_true rfl) hRl)⟩) ⟨Pr.blind, va_recv hK hP (ci := 13) (q0 := 0) rfl rfl, fun U hU hW => ⟨rfl, Pr.at hPc hKc hDc hN hU hW⟩⟩ rfl rfl hl.1 rfl (lv_room (Nat.le_of_ble_eq_true rfl)) dX13_close_40 ⟨(Nat.le_trans (Nat.le_of_ble_eq_true rfl) hRc), (Nat.le_trans (Nat.le_of_ble_eq_true rfl) hRs)⟩) hS (fun q _ h => hFc q h) hFc (fun r_711 M_712 t H_710 locs ht hvm hw hB hz1 hk1 hS => ?_)
      have hp_713 := hw
      obtain ⟨hP1, hK1, hD1⟩ := hB
      rw [ht] at hP1
      obtain ⟨hP, hD⟩ := va_joinQ (X := [(za, .inr (13, [.int 0, .ref z1, .int (nI z2), .int (nI z3), .int z4, .int z5, .ref z6, .ref z7, .ref z8, .ref z9, .int (nI z10), .ref z11, .ref z12, .ref z13, .ref z14, .ref z15, .int (nI z16), .ref z17, .int z18, .ref z19]))]) (cx := [(za, .inr (13, [.int 0, .ref z1, .int (nI z2), .int (nI z3), .int z4, .int z5, .ref z6, .ref z7, .ref z8, .ref z9, .int (nI z10), .ref z11, .ref z12, .ref z13, .ref z14, .ref z15, .int (nI z16), .ref z17, .int z18, .ref z19]))]) (wr := []) (w1 := [(za, .inr (13, [.int 0, .ref z1, .int (nI z2), .int (nI z3), .int 6, .int (-1), .ref z6, .ref z7, .ref z8, .ref z9, .int (nI z10), .ref z11, .ref z12, .ref z13, .ref z14, .ref z15, .int (nI z16), .ref z17, .int z18, .ref z19]))]) (pl := va_pl L M) hP hD [0] [] rfl rfl (by decide) (by decide) hk1 hFc hP1 hD1
      have hP : va_P D vwCl ([(za, .inr (13, [.int 0, .ref z1, .int (nI z2), .int (nI z3), .int 6, .int (-1), .ref z6, .ref z7, .ref z8, .ref z9, .int (nI z10), .ref z11, .ref z12, .ref z13, .ref z14, .ref z15, .int (nI z16), .ref z17, .int z18, .ref z19]))] ++ va_pl L M) H_710 := hP
      have hD : va_D A ([(za, .inr (13, [.int 0, .ref z1, .int (nI z2), .int (nI z3), .int 6, .int (-1), .ref z6, .ref z7, .ref z8, .ref z9, .int (nI z10), .ref z11, .ref z12, .ref z13, .ref z14, .ref z15, .int (nI z16), .ref z17, .int z18, .ref z19]))] ++ va_pl L M) := hD
      have hq := Eq.symm hp_713
      subst hq
      rw [hQ]
      exact W.iret (v := (-1)) hx hb hr (fun t ht hW9 => ⟨⟨(-1), M, rfl, ⟨hW, hF, hG, hGI, trivial⟩, ⟨6, (-1), z16, (by omega), by rw [ht]; exact hP, hD⟩⟩, hS.F ht⟩) hS.2.2 dX13_close_43
  · have hz := rfl (a := 0)
    refine lv_if_ne (tgt := 19) hx hb dX13_close_10 (by decide) (fun c_714 => absurd c_714 (by decide)) (fun _ => ?_)
    refine lv_aload_n hx hb dX13_close_13 rfl (lv_at hl 0 rfl) ?_
    refine lv_iconst (v := 1) hx hb dX13_close_14 (by decide) ?_
    have hPc := hP.sub (ws' := [(za, .inr (13, [.int 0, .ref z1, .int (nI z2), .int (nI z3), .int z4, .int z5, .ref z6, .ref z7, .ref z8, .ref z9, .int (nI z10), .ref z11, .ref z12, .ref z13, .ref z14, .ref z15, .int (nI z16), .ref z17, .int z18, .ref z19]))]) [0] rfl
    have hDc := hD.sub (ws' := [(za, .inr (13, [.int 0, .ref z1, .int (nI z2), .int (nI z3), .int z4, .int z5, .ref z6, .ref z7, .ref z8, .ref z9, .int (nI z10), .ref z11, .ref z12, .ref z13, .ref z14, .ref z15, .int (nI z16), .ref z17, .int z18, .ref z19]))]) [0] (by decide) rfl
    have hKc := hK.sub (tys' := []) [] rfl
    have hFc := va_free (wc := [(za, .inr (13, [.int 0, .ref z1, .int (nI z2), .int (nI z3), .int z4, .int z5, .ref z6, .ref z7, .ref z8, .ref z9, .int (nI z10), .ref z11, .ref z12, .ref z13, .ref z14, .ref z15, .int (nI z16), .ref z17, .int z18, .ref z19]))]) hD hS hA [0] rfl
    refine va_calli (va_runV (As := [.int 1]) (rest := []) ⟨hx, hb, hml, hown, hg⟩ (m_refused l D H_2.size za 0 z1 (nI z2) (nI z3) z4 z5 z6 z7 z8 z9 (nI z10) z11 z12 z13 z14 z15 (nI z16) z17 z18 z19 1) (cwV 1 hg (gV wd_725 wd_726 wd_727 wd_717 wd_728) rfl rfl rfl (by decide +kernel) ⟨(Nat.le_trans (Nat.le_of_ble_eq_true rfl) hRf), (Nat.le_trans (Nat.le_of_ble_eq_true rfl) hRl)⟩) ⟨Pr.blind, va_recv hK hP (ci := 13) (q0 := 0) rfl rfl, fun U hU hW => ⟨rfl, Pr.at hPc hKc hDc hN hU hW⟩⟩ rfl rfl hl.1 rfl (lv_room (Nat.le_of_ble_eq_true rfl)) dX13_close_15 ⟨(Nat.le_trans (Nat.le_of_ble_eq_true rfl) hRc), (Nat.le_trans (Nat.le_of_ble_eq_true rfl) hRs)⟩) hS (fun q _ h => hFc q h) hFc (fun r_716 M_717 t H_715 locs ht hvm hw hB hz1 hk1 hS => ?_)
    have hp_718 := hw
    obtain ⟨hP1, hK1, hD1⟩ := hB
    rw [ht] at hP1
    obtain ⟨hP, hD⟩ := va_joinQ (X := [(za, .inr (13, [.int 0, .ref z1, .int (nI z2), .int (nI z3), .int z4, .int z5, .ref z6, .ref z7, .ref z8, .ref z9, .int (nI z10), .ref z11, .ref z12, .ref z13, .ref z14, .ref z15, .int (nI z16), .ref z17, .int z18, .ref z19]))]) (cx := [(za, .inr (13, [.int 0, .ref z1, .int (nI z2), .int (nI z3), .int z4, .int z5, .ref z6, .ref z7, .ref z8, .ref z9, .int (nI z10), .ref z11, .ref z12, .ref z13, .ref z14, .ref z15, .int (nI z16), .ref z17, .int z18, .ref z19]))]) (wr := []) (w1 := [(za, .inr (13, [.int 0, .ref z1, .int (nI z2), .int (nI z3), .int 1, .int (-1), .ref z6, .ref z7, .ref z8, .ref z9, .int (nI z10), .ref z11, .ref z12, .ref z13, .ref z14, .ref z15, .int (nI z16), .ref z17, .int z18, .ref z19]))]) (pl := va_pl L M) hP hD [0] [] rfl rfl (by decide) (by decide) hk1 hFc hP1 hD1
    have hP : va_P D vwCl ([(za, .inr (13, [.int 0, .ref z1, .int (nI z2), .int (nI z3), .int 1, .int (-1), .ref z6, .ref z7, .ref z8, .ref z9, .int (nI z10), .ref z11, .ref z12, .ref z13, .ref z14, .ref z15, .int (nI z16), .ref z17, .int z18, .ref z19]))] ++ va_pl L M) H_715 := hP
    have hD : va_D A ([(za, .inr (13, [.int 0, .ref z1, .int (nI z2), .int (nI z3), .int 1, .int (-1), .ref z6, .ref z7, .ref z8, .ref z9, .int (nI z10), .ref z11, .ref z12, .ref z13, .ref z14, .ref z15, .int (nI z16), .ref z17, .int z18, .ref z19]))] ++ va_pl L M) := hD
    have hq := Eq.symm hp_718
    subst hq
    rw [hQ]
    exact W.iret (v := (-1)) hx hb hr (fun t ht hW9 => ⟨⟨(-1), M, rfl, ⟨hW, hF, hG, hGI, trivial⟩, ⟨1, (-1), z16, (by omega), by rw [ht]; exact hP, hD⟩⟩, hS.F ht⟩) hS.2.2 dX13_close_18
