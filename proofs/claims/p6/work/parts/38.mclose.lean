theorem dX13_close_0 : decode cX13_close 0 = .ok (.aload_n 0, 1) := by decide +kernel
theorem dX13_close_1 : decode cX13_close 1 = .ok (.iconst 0, 1) := by decide +kernel
theorem dX13_close_2 : decode cX13_close 2 = .ok (.putfield 55, 3) := by decide +kernel
theorem dX13_close_5 : decode cX13_close 5 = .ok (.aload_n 0, 1) := by decide +kernel
theorem dX13_close_6 : decode cX13_close 6 = .ok (.iload_n 1, 1) := by decide +kernel
theorem dX13_close_7 : decode cX13_close 7 = .ok (.invokevirtual 64, 3) := by decide +kernel
theorem dX13_close_10 : decode cX13_close 10 = .ok (.ifCond .ne 9, 3) := by decide +kernel
theorem dX13_close_13 : decode cX13_close 13 = .ok (.aload_n 0, 1) := by decide +kernel
theorem dX13_close_14 : decode cX13_close 14 = .ok (.iconst 1, 1) := by decide +kernel
theorem dX13_close_15 : decode cX13_close 15 = .ok (.invokevirtual 73, 3) := by decide +kernel
theorem dX13_close_18 : decode cX13_close 18 = .ok (.ireturn, 1) := by decide +kernel
theorem dX13_close_19 : decode cX13_close 19 = .ok (.aload_n 0, 1) := by decide +kernel
theorem dX13_close_20 : decode cX13_close 20 = .ok (.getfield 12, 3) := by decide +kernel
theorem dX13_close_23 : decode cX13_close 23 = .ok (.iload_n 1, 1) := by decide +kernel
theorem dX13_close_24 : decode cX13_close 24 = .ok (.aaload, 1) := by decide +kernel
theorem dX13_close_25 : decode cX13_close 25 = .ok (.astore_n 2, 1) := by decide +kernel
theorem dX13_close_26 : decode cX13_close 26 = .ok (.aload_n 2, 1) := by decide +kernel
theorem dX13_close_27 : decode cX13_close 27 = .ok (.getfield 244, 3) := by decide +kernel
theorem dX13_close_30 : decode cX13_close 30 = .ok (.aload_n 2, 1) := by decide +kernel
theorem dX13_close_31 : decode cX13_close 31 = .ok (.getfield 233, 3) := by decide +kernel
theorem dX13_close_34 : decode cX13_close 34 = .ok (.if_icmp .ne 10, 3) := by decide +kernel
theorem dX13_close_37 : decode cX13_close 37 = .ok (.aload_n 0, 1) := by decide +kernel
theorem dX13_close_38 : decode cX13_close 38 = .ok (.bipush 6, 2) := by decide +kernel
theorem dX13_close_40 : decode cX13_close 40 = .ok (.invokevirtual 73, 3) := by decide +kernel
theorem dX13_close_43 : decode cX13_close 43 = .ok (.ireturn, 1) := by decide +kernel
theorem dX13_close_44 : decode cX13_close 44 = .ok (.aload_n 2, 1) := by decide +kernel
theorem dX13_close_45 : decode cX13_close 45 = .ok (.getfield 142, 3) := by decide +kernel
theorem dX13_close_48 : decode cX13_close 48 = .ok (.ifCond .ne 9, 3) := by decide +kernel
theorem dX13_close_51 : decode cX13_close 51 = .ok (.aload_n 0, 1) := by decide +kernel
theorem dX13_close_52 : decode cX13_close 52 = .ok (.iconst 1, 1) := by decide +kernel
theorem dX13_close_53 : decode cX13_close 53 = .ok (.invokevirtual 73, 3) := by decide +kernel
theorem dX13_close_56 : decode cX13_close 56 = .ok (.ireturn, 1) := by decide +kernel
theorem dX13_close_57 : decode cX13_close 57 = .ok (.aload_n 2, 1) := by decide +kernel
theorem dX13_close_58 : decode cX13_close 58 = .ok (.getfield 80, 3) := by decide +kernel
theorem dX13_close_61 : decode cX13_close 61 = .ok (.iconst 1, 1) := by decide +kernel
theorem dX13_close_62 : decode cX13_close 62 = .ok (.iadd, 1) := by decide +kernel
theorem dX13_close_63 : decode cX13_close 63 = .ok (.istore_n 3, 1) := by decide +kernel
theorem dX13_close_64 : decode cX13_close 64 = .ok (.aload_n 2, 1) := by decide +kernel
theorem dX13_close_65 : decode cX13_close 65 = .ok (.getfield 236, 3) := by decide +kernel
theorem dX13_close_68 : decode cX13_close 68 = .ok (.aload_n 2, 1) := by decide +kernel
theorem dX13_close_69 : decode cX13_close 69 = .ok (.getfield 244, 3) := by decide +kernel
theorem dX13_close_72 : decode cX13_close 72 = .ok (.iaload, 1) := by decide +kernel
theorem dX13_close_73 : decode cX13_close 73 = .ok (.istore 4, 2) := by decide +kernel
theorem dX13_close_75 : decode cX13_close 75 = .ok (.iload_n 3, 1) := by decide +kernel
theorem dX13_close_76 : decode cX13_close 76 = .ok (.istore 5, 2) := by decide +kernel
theorem dX13_close_78 : decode cX13_close 78 = .ok (.iload 5, 2) := by decide +kernel
theorem dX13_close_80 : decode cX13_close 80 = .ok (.iload 4, 2) := by decide +kernel
theorem dX13_close_82 : decode cX13_close 82 = .ok (.if_icmp .gt 26, 3) := by decide +kernel
theorem dX13_close_85 : decode cX13_close 85 = .ok (.aload_n 2, 1) := by decide +kernel
theorem dX13_close_86 : decode cX13_close 86 = .ok (.iload 5, 2) := by decide +kernel
theorem dX13_close_88 : decode cX13_close 88 = .ok (.invokevirtual 247, 3) := by decide +kernel
theorem dX13_close_91 : decode cX13_close 91 = .ok (.ifCond .eq 11, 3) := by decide +kernel
theorem dX13_close_94 : decode cX13_close 94 = .ok (.aload_n 0, 1) := by decide +kernel
theorem dX13_close_95 : decode cX13_close 95 = .ok (.iconst 5, 1) := by decide +kernel
theorem dX13_close_96 : decode cX13_close 96 = .ok (.iload 5, 2) := by decide +kernel
theorem dX13_close_98 : decode cX13_close 98 = .ok (.invokevirtual 250, 3) := by decide +kernel
theorem dX13_close_101 : decode cX13_close 101 = .ok (.ireturn, 1) := by decide +kernel
theorem dX13_close_102 : decode cX13_close 102 = .ok (.iinc 5 1, 3) := by decide +kernel
theorem dX13_close_105 : decode cX13_close 105 = .ok (.goto (-27), 3) := by decide +kernel
theorem dX13_close_108 : decode cX13_close 108 = .ok (.aload_n 0, 1) := by decide +kernel
theorem dX13_close_109 : decode cX13_close 109 = .ok (.iload_n 1, 1) := by decide +kernel
theorem dX13_close_110 : decode cX13_close 110 = .ok (.iload 4, 2) := by decide +kernel
theorem dX13_close_112 : decode cX13_close 112 = .ok (.invokevirtual 253, 3) := by decide +kernel
theorem dX13_close_115 : decode cX13_close 115 = .ok (.istore 5, 2) := by decide +kernel
theorem dX13_close_117 : decode cX13_close 117 = .ok (.iload 5, 2) := by decide +kernel
theorem dX13_close_119 : decode cX13_close 119 = .ok (.iconst (-1), 1) := by decide +kernel
theorem dX13_close_120 : decode cX13_close 120 = .ok (.if_icmp .eq 12, 3) := by decide +kernel
theorem dX13_close_123 : decode cX13_close 123 = .ok (.aload_n 0, 1) := by decide +kernel
theorem dX13_close_124 : decode cX13_close 124 = .ok (.bipush 7, 2) := by decide +kernel
theorem dX13_close_126 : decode cX13_close 126 = .ok (.iload 5, 2) := by decide +kernel
theorem dX13_close_128 : decode cX13_close 128 = .ok (.invokevirtual 250, 3) := by decide +kernel
theorem dX13_close_131 : decode cX13_close 131 = .ok (.ireturn, 1) := by decide +kernel
theorem dX13_close_132 : decode cX13_close 132 = .ok (.aload_n 2, 1) := by decide +kernel
theorem dX13_close_133 : decode cX13_close 133 = .ok (.iconst 0, 1) := by decide +kernel
theorem dX13_close_134 : decode cX13_close 134 = .ok (.putfield 256, 3) := by decide +kernel
theorem dX13_close_137 : decode cX13_close 137 = .ok (.iconst 0, 1) := by decide +kernel
theorem dX13_close_138 : decode cX13_close 138 = .ok (.istore 6, 2) := by decide +kernel
theorem dX13_close_140 : decode cX13_close 140 = .ok (.iload 6, 2) := by decide +kernel
theorem dX13_close_142 : decode cX13_close 142 = .ok (.bipush 24, 2) := by decide +kernel
theorem dX13_close_144 : decode cX13_close 144 = .ok (.if_icmp .ge 17, 3) := by decide +kernel
theorem dX13_close_147 : decode cX13_close 147 = .ok (.aload_n 2, 1) := by decide +kernel
theorem dX13_close_148 : decode cX13_close 148 = .ok (.getfield 259, 3) := by decide +kernel
theorem dX13_close_151 : decode cX13_close 151 = .ok (.iload 6, 2) := by decide +kernel
theorem dX13_close_153 : decode cX13_close 153 = .ok (.lconst 0, 1) := by decide +kernel
theorem dX13_close_154 : decode cX13_close 154 = .ok (.lastore, 1) := by decide +kernel
theorem dX13_close_155 : decode cX13_close 155 = .ok (.iinc 6 1, 3) := by decide +kernel
theorem dX13_close_158 : decode cX13_close 158 = .ok (.goto (-18), 3) := by decide +kernel
theorem dX13_close_161 : decode cX13_close 161 = .ok (.iload_n 3, 1) := by decide +kernel
theorem dX13_close_162 : decode cX13_close 162 = .ok (.istore 6, 2) := by decide +kernel
theorem dX13_close_164 : decode cX13_close 164 = .ok (.iload 6, 2) := by decide +kernel
theorem dX13_close_166 : decode cX13_close 166 = .ok (.iload 4, 2) := by decide +kernel
theorem dX13_close_168 : decode cX13_close 168 = .ok (.if_icmp .gt 70, 3) := by decide +kernel
theorem dX13_close_171 : decode cX13_close 171 = .ok (.iload 6, 2) := by decide +kernel
theorem dX13_close_173 : decode cX13_close 173 = .ok (.iload_n 3, 1) := by decide +kernel
theorem dX13_close_174 : decode cX13_close 174 = .ok (.if_icmp .eq 12, 3) := by decide +kernel
theorem dX13_close_177 : decode cX13_close 177 = .ok (.aload_n 2, 1) := by decide +kernel
theorem dX13_close_178 : decode cX13_close 178 = .ok (.iload 6, 2) := by decide +kernel
theorem dX13_close_180 : decode cX13_close 180 = .ok (.invokestatic 262, 3) := by decide +kernel
theorem dX13_close_183 : decode cX13_close 183 = .ok (.ifCond .eq 34, 3) := by decide +kernel
theorem dX13_close_186 : decode cX13_close 186 = .ok (.aload_n 2, 1) := by decide +kernel
theorem dX13_close_187 : decode cX13_close 187 = .ok (.getfield 265, 3) := by decide +kernel
theorem dX13_close_190 : decode cX13_close 190 = .ok (.aload_n 2, 1) := by decide +kernel
theorem dX13_close_191 : decode cX13_close 191 = .ok (.getfield 256, 3) := by decide +kernel
theorem dX13_close_194 : decode cX13_close 194 = .ok (.iload 6, 2) := by decide +kernel
theorem dX13_close_196 : decode cX13_close 196 = .ok (.iastore, 1) := by decide +kernel
theorem dX13_close_197 : decode cX13_close 197 = .ok (.aload_n 2, 1) := by decide +kernel
theorem dX13_close_198 : decode cX13_close 198 = .ok (.getfield 268, 3) := by decide +kernel
theorem dX13_close_201 : decode cX13_close 201 = .ok (.aload_n 2, 1) := by decide +kernel
theorem dX13_close_202 : decode cX13_close 202 = .ok (.getfield 256, 3) := by decide +kernel
theorem dX13_close_205 : decode cX13_close 205 = .ok (.iconst 0, 1) := by decide +kernel
theorem dX13_close_206 : decode cX13_close 206 = .ok (.iastore, 1) := by decide +kernel
theorem dX13_close_207 : decode cX13_close 207 = .ok (.aload_n 2, 1) := by decide +kernel
theorem dX13_close_208 : decode cX13_close 208 = .ok (.dup, 1) := by decide +kernel
theorem dX13_close_209 : decode cX13_close 209 = .ok (.getfield 256, 3) := by decide +kernel
theorem dX13_close_212 : decode cX13_close 212 = .ok (.iconst 1, 1) := by decide +kernel
theorem dX13_close_213 : decode cX13_close 213 = .ok (.iadd, 1) := by decide +kernel
theorem dX13_close_214 : decode cX13_close 214 = .ok (.putfield 256, 3) := by decide +kernel
theorem dX13_close_217 : decode cX13_close 217 = .ok (.aload_n 2, 1) := by decide +kernel
theorem dX13_close_218 : decode cX13_close 218 = .ok (.getfield 268, 3) := by decide +kernel
theorem dX13_close_221 : decode cX13_close 221 = .ok (.aload_n 2, 1) := by decide +kernel
theorem dX13_close_222 : decode cX13_close 222 = .ok (.getfield 256, 3) := by decide +kernel
theorem dX13_close_225 : decode cX13_close 225 = .ok (.iconst 1, 1) := by decide +kernel
theorem dX13_close_226 : decode cX13_close 226 = .ok (.isub, 1) := by decide +kernel
theorem dX13_close_227 : decode cX13_close 227 = .ok (.dup2, 1) := by decide +kernel
theorem dX13_close_228 : decode cX13_close 228 = .ok (.iaload, 1) := by decide +kernel
theorem dX13_close_229 : decode cX13_close 229 = .ok (.iconst 1, 1) := by decide +kernel
theorem dX13_close_230 : decode cX13_close 230 = .ok (.iadd, 1) := by decide +kernel
theorem dX13_close_231 : decode cX13_close 231 = .ok (.iastore, 1) := by decide +kernel
theorem dX13_close_232 : decode cX13_close 232 = .ok (.iinc 6 1, 3) := by decide +kernel
theorem dX13_close_235 : decode cX13_close 235 = .ok (.goto (-71), 3) := by decide +kernel
theorem dX13_close_238 : decode cX13_close 238 = .ok (.aload_n 2, 1) := by decide +kernel
theorem dX13_close_239 : decode cX13_close 239 = .ok (.getfield 256, 3) := by decide +kernel
theorem dX13_close_242 : decode cX13_close 242 = .ok (.istore 6, 2) := by decide +kernel
theorem dX13_close_244 : decode cX13_close 244 = .ok (.aload_n 0, 1) := by decide +kernel
theorem dX13_close_245 : decode cX13_close 245 = .ok (.aload_n 2, 1) := by decide +kernel
theorem dX13_close_246 : decode cX13_close 246 = .ok (.iload 6, 2) := by decide +kernel
theorem dX13_close_248 : decode cX13_close 248 = .ok (.invokevirtual 271, 3) := by decide +kernel
theorem dX13_close_251 : decode cX13_close 251 = .ok (.iconst 0, 1) := by decide +kernel
theorem dX13_close_252 : decode cX13_close 252 = .ok (.istore 7, 2) := by decide +kernel
theorem dX13_close_254 : decode cX13_close 254 = .ok (.iload 7, 2) := by decide +kernel
theorem dX13_close_256 : decode cX13_close 256 = .ok (.iload 6, 2) := by decide +kernel
theorem dX13_close_258 : decode cX13_close 258 = .ok (.if_icmp .ge 17, 3) := by decide +kernel
theorem dX13_close_261 : decode cX13_close 261 = .ok (.aload_n 0, 1) := by decide +kernel
theorem dX13_close_262 : decode cX13_close 262 = .ok (.aload_n 2, 1) := by decide +kernel
theorem dX13_close_263 : decode cX13_close 263 = .ok (.iload 7, 2) := by decide +kernel
theorem dX13_close_265 : decode cX13_close 265 = .ok (.iload_n 3, 1) := by decide +kernel
theorem dX13_close_266 : decode cX13_close 266 = .ok (.invokevirtual 275, 3) := by decide +kernel
theorem dX13_close_269 : decode cX13_close 269 = .ok (.iinc 7 1, 3) := by decide +kernel
theorem dX13_close_272 : decode cX13_close 272 = .ok (.goto (-18), 3) := by decide +kernel
theorem dX13_close_275 : decode cX13_close 275 = .ok (.iconst 0, 1) := by decide +kernel
theorem dX13_close_276 : decode cX13_close 276 = .ok (.istore 7, 2) := by decide +kernel
theorem dX13_close_278 : decode cX13_close 278 = .ok (.iload 7, 2) := by decide +kernel
theorem dX13_close_280 : decode cX13_close 280 = .ok (.aload_n 2, 1) := by decide +kernel
theorem dX13_close_281 : decode cX13_close 281 = .ok (.getfield 279, 3) := by decide +kernel
theorem dX13_close_284 : decode cX13_close 284 = .ok (.if_icmp .ge 16, 3) := by decide +kernel
theorem dX13_close_287 : decode cX13_close 287 = .ok (.aload_n 0, 1) := by decide +kernel
theorem dX13_close_288 : decode cX13_close 288 = .ok (.aload_n 2, 1) := by decide +kernel
theorem dX13_close_289 : decode cX13_close 289 = .ok (.iload 7, 2) := by decide +kernel
theorem dX13_close_291 : decode cX13_close 291 = .ok (.invokevirtual 282, 3) := by decide +kernel
theorem dX13_close_294 : decode cX13_close 294 = .ok (.iinc 7 1, 3) := by decide +kernel
theorem dX13_close_297 : decode cX13_close 297 = .ok (.goto (-19), 3) := by decide +kernel
theorem dX13_close_300 : decode cX13_close 300 = .ok (.aload_n 2, 1) := by decide +kernel
theorem dX13_close_301 : decode cX13_close 301 = .ok (.iload_n 3, 1) := by decide +kernel
theorem dX13_close_302 : decode cX13_close 302 = .ok (.iload 4, 2) := by decide +kernel
theorem dX13_close_304 : decode cX13_close 304 = .ok (.invokestatic 285, 3) := by decide +kernel
theorem dX13_close_307 : decode cX13_close 307 = .ok (.aload_n 2, 1) := by decide +kernel
theorem dX13_close_308 : decode cX13_close 308 = .ok (.lconst 0, 1) := by decide +kernel
theorem dX13_close_309 : decode cX13_close 309 = .ok (.putfield 179, 3) := by decide +kernel
theorem dX13_close_312 : decode cX13_close 312 = .ok (.aload_n 2, 1) := by decide +kernel
theorem dX13_close_313 : decode cX13_close 313 = .ok (.iconst 0, 1) := by decide +kernel
theorem dX13_close_314 : decode cX13_close 314 = .ok (.putfield 279, 3) := by decide +kernel
theorem dX13_close_317 : decode cX13_close 317 = .ok (.aload_n 2, 1) := by decide +kernel
theorem dX13_close_318 : decode cX13_close 318 = .ok (.iconst 0, 1) := by decide +kernel
theorem dX13_close_319 : decode cX13_close 319 = .ok (.putfield 161, 3) := by decide +kernel
theorem dX13_close_322 : decode cX13_close 322 = .ok (.aload_n 2, 1) := by decide +kernel
theorem dX13_close_323 : decode cX13_close 323 = .ok (.iload 4, 2) := by decide +kernel
theorem dX13_close_325 : decode cX13_close 325 = .ok (.putfield 80, 3) := by decide +kernel
theorem dX13_close_328 : decode cX13_close 328 = .ok (.aload_n 2, 1) := by decide +kernel
theorem dX13_close_329 : decode cX13_close 329 = .ok (.dup, 1) := by decide +kernel
theorem dX13_close_330 : decode cX13_close 330 = .ok (.getfield 244, 3) := by decide +kernel
theorem dX13_close_333 : decode cX13_close 333 = .ok (.iconst 1, 1) := by decide +kernel
theorem dX13_close_334 : decode cX13_close 334 = .ok (.iadd, 1) := by decide +kernel
theorem dX13_close_335 : decode cX13_close 335 = .ok (.putfield 244, 3) := by decide +kernel
theorem dX13_close_338 : decode cX13_close 338 = .ok (.aload_n 2, 1) := by decide +kernel
theorem dX13_close_339 : decode cX13_close 339 = .ok (.iconst 1, 1) := by decide +kernel
theorem dX13_close_340 : decode cX13_close 340 = .ok (.putfield 288, 3) := by decide +kernel
theorem dX13_close_343 : decode cX13_close 343 = .ok (.aload_n 0, 1) := by decide +kernel
theorem dX13_close_344 : decode cX13_close 344 = .ok (.aload_n 2, 1) := by decide +kernel
theorem dX13_close_345 : decode cX13_close 345 = .ok (.iload 4, 2) := by decide +kernel
theorem dX13_close_347 : decode cX13_close 347 = .ok (.invokevirtual 292, 3) := by decide +kernel
theorem dX13_close_350 : decode cX13_close 350 = .ok (.aload_n 2, 1) := by decide +kernel
theorem dX13_close_351 : decode cX13_close 351 = .ok (.iload 4, 2) := by decide +kernel
theorem dX13_close_353 : decode cX13_close 353 = .ok (.invokestatic 295, 3) := by decide +kernel
theorem dX13_close_356 : decode cX13_close 356 = .ok (.aload_n 0, 1) := by decide +kernel
theorem dX13_close_357 : decode cX13_close 357 = .ok (.aload_n 2, 1) := by decide +kernel
theorem dX13_close_358 : decode cX13_close 358 = .ok (.getfield 244, 3) := by decide +kernel
theorem dX13_close_361 : decode cX13_close 361 = .ok (.iconst 1, 1) := by decide +kernel
theorem dX13_close_362 : decode cX13_close 362 = .ok (.isub, 1) := by decide +kernel
theorem dX13_close_363 : decode cX13_close 363 = .ok (.invokevirtual 86, 3) := by decide +kernel
theorem dX13_close_366 : decode cX13_close 366 = .ok (.ireturn, 1) := by decide +kernel
theorem wd_853 : Cond.methodLink RX13 253 yX13_behind ∈ lw_good := mem_t7 39 (by decide +kernel) rfl
theorem wd_854 : Cond.instanceMethod yX13_behind ∈ lw_good := mem_t7 41 (by decide +kernel) rfl
theorem wd_855 : Cond.selects RX13 yX13_behind yX13_behind ∈ lw_good := mem_p 37 (by decide +kernel) rfl
theorem wd_856 : Cond.code yX13_behind cX13_behind 7 (some .int) ∈ lw_good := mem_t7 42 rfl rfl
theorem wd_857 : Cond.methodLink RX13 271 yX13_looses ∈ lw_good := mem_t7 51 (by decide +kernel) rfl
theorem wd_858 : Cond.instanceMethod yX13_looses ∈ lw_good := mem_t7 53 (by decide +kernel) rfl
theorem wd_859 : Cond.selects RX13 yX13_looses yX13_looses ∈ lw_good := mem_p 38 (by decide +kernel) rfl
theorem wd_860 : Cond.code yX13_looses cX13_looses 12 none ∈ lw_good := mem_t7 54 rfl rfl
theorem wd_861 : Cond.methodLink RX13 285 yX13_settled ∈ lw_good := mem_t7 113 (by decide +kernel) rfl
theorem wd_862 : Cond.static yX13_settled ∈ lw_good := mem_t7 114 (by decide +kernel) rfl
theorem wd_863 : Cond.code yX13_settled cX13_settled 5 none ∈ lw_good := mem_t7 115 rfl rfl
theorem wd_864 : Cond.methodLink RX13 292 yX13_incomes ∈ lw_good := mem_t7 116 (by decide +kernel) rfl
theorem wd_865 : Cond.instanceMethod yX13_incomes ∈ lw_good := mem_t7 118 (by decide +kernel) rfl
theorem wd_866 : Cond.selects RX13 yX13_incomes yX13_incomes ∈ lw_good := mem_p 50 (by decide +kernel) rfl
theorem wd_867 : Cond.code yX13_incomes cX13_incomes 6 none ∈ lw_good := mem_t7 119 rfl rfl
theorem wd_868 : Cond.methodLink RX13 295 yX13_ends ∈ lw_good := mem_t7 121 (by decide +kernel) rfl
theorem wd_869 : Cond.static yX13_ends ∈ lw_good := mem_t7 122 (by decide +kernel) rfl
theorem wd_870 : Cond.code yX13_ends cX13_ends 5 none ∈ lw_good := mem_t7 123 rfl rfl
theorem wd_871 : Cond.methodLink RX13 282 yX13_mended ∈ lw_good := mem_t7 109 (by decide +kernel) rfl
theorem wd_872 : Cond.instanceMethod yX13_mended ∈ lw_good := mem_t7 111 (by decide +kernel) rfl
theorem wd_873 : Cond.selects RX13 yX13_mended yX13_mended ∈ lw_good := mem_p 49 (by decide +kernel) rfl
theorem wd_874 : Cond.code yX13_mended cX13_mended 4 none ∈ lw_good := mem_t7 112 rfl rfl
theorem wd_875 : Cond.methodLink RX13 275 yX13_stretch ∈ lw_good := mem_t7 56 (by decide +kernel) rfl
theorem wd_876 : Cond.instanceMethod yX13_stretch ∈ lw_good := mem_t7 58 (by decide +kernel) rfl
theorem wd_877 : Cond.selects RX13 yX13_stretch yX13_stretch ∈ lw_good := mem_p 39 (by decide +kernel) rfl
theorem wd_878 : Cond.code yX13_stretch cX13_stretch 13 none ∈ lw_good := mem_t7 59 rfl rfl
theorem wd_879 : Cond.methodLink RX13 262 yX13_isParted ∈ lw_good := mem_t7 44 (by decide +kernel) rfl
theorem wd_880 : Cond.static yX13_isParted ∈ lw_good := mem_t7 45 (by decide +kernel) rfl
theorem wd_881 : Cond.code yX13_isParted cX13_isParted 4 (some .boolean) ∈ lw_good := mem_t7 46 rfl rfl
theorem wd_882 : Cond.methodLink RX13 250 yX13_refusedAt ∈ lw_good := mem_t7 35 (by decide +kernel) rfl
theorem wd_883 : Cond.instanceMethod yX13_refusedAt ∈ lw_good := mem_t7 37 (by decide +kernel) rfl
theorem wd_884 : Cond.selects RX13 yX13_refusedAt yX13_refusedAt ∈ lw_good := mem_p 36 (by decide +kernel) rfl
theorem wd_885 : Cond.code yX13_refusedAt cX13_refusedAt 3 (some .int) ∈ lw_good := mem_t7 38 rfl rfl
theorem pv_ge {first to years closed : Int} {e : Nat → Int32} (h : HE first to years closed e) (hy : years ≤ 12) : ∀ k : Nat, (k : Int) ≤ years → first - 1 ≤ pv first e k := by
  intro k
  induction k with
  | zero => intro _; exact Int.le_refl _
  | succ k ih =>
    intro hk
    have h1 := ih (by omega)
    have h2 := (h.2.2 k (by omega) (by omega)).1
    show first - 1 ≤ (e k).toInt
    omega
theorem heC {first to years closed : Int} {e f37 : Nat → Int32} {v13 v12 n k : Nat} (h : HE first to years closed e) (hc : closed = (v13 : Int)) (hy : years = (v12 : Int)) (hne : ¬ v13 = v12) (h12 : v12 ≤ 12) (e37 : e = f37) (hk : k = v13) (ec : f37 k = nI n) (hn : n < 1000) : v13 < v12 ∧ to + 1 ≤ (n : Int) ∧ (n : Int) ≤ to + 100 ∧ first ≤ to + 1 := by
  have h0 := h.1
  have hlt : v13 < v12 := by omega
  have h2 := h.2.2 v13 (by omega) (by omega)
  have h3 : to = pv first e v13 := by
    have := h.2.1
    rw [hc, show ((v13 : Int)).toNat = v13 from by omega] at this
    exact this
  have h4 := pv_ge h (by omega) v13 (by omega)
  have h5 : (e v13).toInt = (n : Int) := by
    rw [e37, ← hk, ec, nI_toInt (by omega)]
  omega
/-- the stretches that close() has laid up to day d -/
def SD (F n d : Nat) (g h : Nat → Int32) : Prop := F ≤ d ∧ n ≤ d - F ∧ (d = F ∨ (1 ≤ n ∧ 1 ≤ (h 0).toInt)) ∧ ∀ i : Nat, i < n → (F : Int) ≤ (g i).toInt ∧ 0 ≤ (h i).toInt ∧ (g i).toInt + (h i).toInt ≤ (d : Int)
theorem SD.rf (F : Nat) (g h : Nat → Int32) : SD F 0 F g h := ⟨Nat.le_refl _, Nat.zero_le _, Or.inl rfl, fun i hi => absurd hi (Nat.not_lt_zero _)⟩
theorem SD.new {F n d k k2 c : Nat} {g h : Nat → Int32} (s : SD F n d g h) (hd : d < 1000) (hk : k = n) (hk2 : k2 = n) (hc : c = 0) : SD F (n + 1) (d + 1) (upd g k (nI d)) (upd (upd h k 0) k2 (nI (c + 1))) := by
  obtain ⟨s1, s2, s3, s4⟩ := s
  subst hk
  subst hk2
  subst hc
  refine ⟨by omega, by omega, Or.inr ⟨by omega, ?_⟩, fun i hi => ?_⟩
  · by_cases z : 0 = k2
    · rw [← z, upd_self]
      decide
    · rw [upd_ne _ _ z, upd_ne _ _ z]
      rcases s3 with q | q
      · omega
      · exact q.2
  · by_cases z : i = k2
    · rw [z, upd_self, upd_self, nI_toInt (by omega), nI_toInt (by omega)]
      omega
    · rw [upd_ne _ _ z, upd_ne _ _ z, upd_ne _ _ z]
      have := s4 i (by omega)
      omega
theorem SD.old {F n d k c : Nat} {g h : Nat → Int32} (s : SD F n d g h) (hn : 1 ≤ n) (hk : k = n - 1) (hc : h k = nI c) (hc2 : c < 1001) : SD F n (d + 1) g (upd h k (nI (c + 1))) := by
  obtain ⟨s1, s2, s3, s4⟩ := s
  refine ⟨by omega, by omega, Or.inr ⟨hn, ?_⟩, fun i hi => ?_⟩
  · by_cases z : 0 = k
    · rw [← z, upd_self, nI_toInt (by omega)]
      omega
    · rw [upd_ne _ _ z]
      rcases s3 with q | q
      · omega
      · exact q.2
  · by_cases z : i = k
    · rw [z, upd_self, nI_toInt (by omega)]
      have := s4 k (by omega)
      rw [hc, nI_toInt (by omega)] at this
      omega
    · rw [upd_ne _ _ z]
      have := s4 i hi
      omega
theorem SD.c {F n d k c : Nat} {g h : Nat → Int32} (s : SD F n d g h) (hn : 1 ≤ n) (hk : k = n - 1) (hc : h k = nI c) (hc2 : c < 1001) : c ≤ d := by
  have := s.2.2.2 k (by omega)
  rw [hc, nI_toInt (by omega)] at this
  omega
theorem updz {g : Nat → Int32} {k k2 n c : Nat} (hk : k = n) (hk2 : k2 = n) (e : upd g k 0 k2 = nI c) (hc : c < 1001) : c = 0 := by
  subst hk
  subst hk2
  rw [upd_self] at e
  exact ((iEQ (a := 0) (b := c) (by omega) (by omega)).mp e).symm
theorem va_up_4 {α : Type} (y : Nat → α) (k l : Nat) (p q a c : α) : va_up (va_up (va_up (va_up y k p) l q) k a) l c = va_up (va_up y k a) l c := by
  funext j
  by_cases h : j = l
  · subst h
    rw [va_up_self, va_up_self]
  · rw [va_up_ne _ _ h, va_up_ne _ _ h]
    by_cases h2 : j = k
    · subst h2
      rw [va_up_self, va_up_self]
    · rw [va_up_ne _ _ h2, va_up_ne _ _ h2, va_up_ne _ _ h, va_up_ne _ _ h2]
